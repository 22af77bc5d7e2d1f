def LX2_skip_23 (st : Int32) (lf : Int32) (ao : Int32) (sib : Int32) : Nat → Rw → Tk → Rw → Tk → Int32 → Int32 → Int32 → Int32 × Tk
  | 0, wr, tw, cr, tr, bad, ps, i => (0, tr)
  | n + 1, wr, tw, cr, tr, bad, ps, i =>
    if 16 ≤ i then
      (ps, (tr.1, tr.2.1, 0, tr.2.2.2))
    else
      let r_1 := FX1_isAligned st sib lf tr cr
      if r_1 = 0 then
        let r_3 := FX1_isStuffedDue st sib lf tr cr
        if r_3 = 0 then
          let r_5 := FX0_bitOf lf cr tr.1
          let u_8 := FX1_stepOver st sib lf tr cr r_5
          let i_9 := ps + 1
          let i_10 := i + 1
          LX2_skip_23 st lf ao sib n wr tw cr u_8 bad i_9 i_10
        else
          let u_12 := FX1_stepOverStuffed st sib lf tr cr
          let i_13 := i + 1
          LX2_skip_23 st lf ao sib n wr tw cr u_12 bad ps i_13
      else
        (ps, (tr.1, tr.2.1, 0, tr.2.2.2))
def FX2_skip (st : Int32) (lf : Int32) (ao : Int32) (sib : Int32) (wr : Rw) (tw : Tk) (cr : Rw) (tr : Tk) (bad : Int32) : Int32 × Tk :=
  if bad = 0 then
    let r_1 := FX1_isAligned st sib lf tr cr
    if r_1 = 0 then
      LX2_skip_23 st lf ao sib 17 wr tw cr tr bad 0 0
    else
      (0, tr)
  else
    (0, tr)
set_option maxRecDepth 100000 in
theorem plX2_skip_l23_0 (st : Int32) (lf : Int32) (ao : Int32) (sib : Int32) (n : Nat) (wr : Rw) (tw : Tk) (cr : Rw) (tr : Tk) (bad : Int32) (ps : Int32) (i : Int32) (c_26 : 16 ≤ i) : (ps, (tr.1, tr.2.1, 0, tr.2.2.2)) = LX2_skip_23 st lf ao sib (n + 1) wr tw cr tr bad ps i := by
  exact (if_pos c_26).symm
set_option maxRecDepth 100000 in
theorem plX2_skip_l23_1 (st : Int32) (lf : Int32) (ao : Int32) (sib : Int32) (n : Nat) (wr : Rw) (tw : Tk) (cr : Rw) (tr : Tk) (bad : Int32) (ps : Int32) (i : Int32) (c_26 : ¬ (16 ≤ i)) (r_1 : Int32) (hw_2 : r_1 = FX1_isAligned st sib lf tr cr) (c_36 : ¬ (r_1 = 0)) : (ps, (tr.1, tr.2.1, 0, tr.2.2.2)) = LX2_skip_23 st lf ao sib (n + 1) wr tw cr tr bad ps i := by
  subst hw_2
  exact ((if_neg c_26).trans (if_neg c_36)).symm
set_option maxRecDepth 100000 in
theorem plX2_skip_l23_2 (st : Int32) (lf : Int32) (ao : Int32) (sib : Int32) (n : Nat) (wr : Rw) (tw : Tk) (cr : Rw) (tr : Tk) (bad : Int32) (ps : Int32) (i : Int32) (c_26 : ¬ (16 ≤ i)) (r_1 : Int32) (hw_2 : r_1 = FX1_isAligned st sib lf tr cr) (c_36 : r_1 = 0) (r_3 : Int32) (hw_4 : r_3 = FX1_isStuffedDue st sib lf tr cr) (c_46 : r_3 = 0) (r_5 : Int32) (hw_6 : r_5 = FX0_bitOf lf cr tr.1) (u_8 : Tk) (hw_7 : u_8 = FX1_stepOver st sib lf tr cr r_5) (i_9 : Int32) (ei_9 : i_9 = ps + 1) (i_10 : Int32) (ei_10 : i_10 = i + 1) : LX2_skip_23 st lf ao sib n wr tw cr u_8 bad i_9 i_10 = LX2_skip_23 st lf ao sib (n + 1) wr tw cr tr bad ps i := by
  subst hw_2
  subst hw_4
  subst hw_6
  subst hw_7
  subst ei_9
  subst ei_10
  exact (((if_neg c_26).trans (if_pos c_36)).trans (if_pos c_46)).symm
set_option maxRecDepth 100000 in
theorem plX2_skip_l23_3 (st : Int32) (lf : Int32) (ao : Int32) (sib : Int32) (n : Nat) (wr : Rw) (tw : Tk) (cr : Rw) (tr : Tk) (bad : Int32) (ps : Int32) (i : Int32) (c_26 : ¬ (16 ≤ i)) (r_1 : Int32) (hw_2 : r_1 = FX1_isAligned st sib lf tr cr) (c_36 : r_1 = 0) (r_3 : Int32) (hw_4 : r_3 = FX1_isStuffedDue st sib lf tr cr) (c_46 : ¬ (r_3 = 0)) (u_12 : Tk) (hw_11 : u_12 = FX1_stepOverStuffed st sib lf tr cr) (i_13 : Int32) (ei_13 : i_13 = i + 1) : LX2_skip_23 st lf ao sib n wr tw cr u_12 bad ps i_13 = LX2_skip_23 st lf ao sib (n + 1) wr tw cr tr bad ps i := by
  subst hw_2
  subst hw_4
  subst hw_11
  subst ei_13
  exact (((if_neg c_26).trans (if_pos c_36)).trans (if_neg c_46)).symm
set_option maxRecDepth 100000 in
theorem plX2_skip_0 (st : Int32) (lf : Int32) (ao : Int32) (sib : Int32) (wr : Rw) (tw : Tk) (cr : Rw) (tr : Tk) (bad : Int32) (c_4 : ¬ (bad = 0)) : (0, tr) = FX2_skip st lf ao sib wr tw cr tr bad := by
  exact (if_neg c_4).symm
set_option maxRecDepth 100000 in
theorem plX2_skip_1 (st : Int32) (lf : Int32) (ao : Int32) (sib : Int32) (wr : Rw) (tw : Tk) (cr : Rw) (tr : Tk) (bad : Int32) (c_4 : bad = 0) (r_1 : Int32) (hw_2 : r_1 = FX1_isAligned st sib lf tr cr) (c_14 : r_1 = 0) : LX2_skip_23 st lf ao sib 17 wr tw cr tr bad 0 0 = FX2_skip st lf ao sib wr tw cr tr bad := by
  subst hw_2
  exact ((if_pos c_4).trans (if_pos c_14)).symm
set_option maxRecDepth 100000 in
theorem plX2_skip_2 (st : Int32) (lf : Int32) (ao : Int32) (sib : Int32) (wr : Rw) (tw : Tk) (cr : Rw) (tr : Tk) (bad : Int32) (c_4 : bad = 0) (r_1 : Int32) (hw_2 : r_1 = FX1_isAligned st sib lf tr cr) (c_14 : ¬ (r_1 = 0)) : (0, tr) = FX2_skip st lf ao sib wr tw cr tr bad := by
  subst hw_2
  exact ((if_pos c_4).trans (if_neg c_14)).symm
set_option maxHeartbeats 4000000 in
set_option maxRecDepth 100000 in
theorem kX2_skip_23 {p : Program} {l : Launch} {e : Env} {s : State} {m : MethodId} {args : Array Value} {below : List Frame} {meth : Method} {c : Code} {dC : Nat → ClassId} {dI : Nat → Nat → Nat} {cIw cIc : ClassId} {ox ow oaw og oc oac od : Nat} {st : Int32} {lf : Int32} {ao : Int32} {sib : Int32} {z : Int32 × Tk} {A : Nat → Prop} (hx : p.tables.exec = Jvm.exec) (hb : c.code = cX2_skip) (hr : meth.sig.returnType = (some .int)) (hml : c.maxLocals = 3) (hown : s.vm.findClass RX2 = some m.cls) (hts : ∀ w ∈ G, w.before args s = true) (hlocks : meth.locks = false) (hA : ∀ q : Nat, s.heap.size ≤ q → A q) (hZ : zOk s) (hK : va_K (dC, dI) vwCl [(cIw, .int), (cIc, .int)] s) : ∀ (n : Nat) (wr : Rw) (tw : Tk) (cr : Rw) (tr : Tk) (bad : Int32) (ps : Int32) (i : Int32), (fuel n i 16) → LX2_skip_23 st lf ao sib n wr tw cr tr bad ps i = z → ∀ (H : Heap) (locs : List Loc), va_P (dC, dI) vwCl [(ox, .inr (2, [.int st, .int lf, .int ao, .ref ow, .ref og, .ref oc, .ref od, .int bad])), (ow, .inr (0, [.int lf, .ref oaw, .int wr.2])), (oaw, .inl (cIw, 600, .inl wr.1)), (og, .inr (1, [.ref ow, .int st, .int sib, .int tw.1, .int tw.2.1, .int tw.2.2.1, .int tw.2.2.2])), (oc, .inr (0, [.int lf, .ref oac, .int cr.2])), (oac, .inl (cIc, 600, .inl cr.1)), (od, .inr (1, [.ref oc, .int st, .int sib, .int tr.1, .int tr.2.1, .int tr.2.2.1, .int tr.2.2.2]))] H → va_D A [(ox, .inr (2, [.int st, .int lf, .int ao, .ref ow, .ref og, .ref oc, .ref od, .int bad])), (ow, .inr (0, [.int lf, .ref oaw, .int wr.2])), (oaw, .inl (cIw, 600, .inl wr.1)), (og, .inr (1, [.ref ow, .int st, .int sib, .int tw.1, .int tw.2.1, .int tw.2.2.1, .int tw.2.2.2])), (oc, .inr (0, [.int lf, .ref oac, .int cr.2])), (oac, .inl (cIc, 600, .inl cr.1)), (od, .inr (1, [.ref oc, .int st, .int sib, .int tr.1, .int tr.2.1, .int tr.2.2.1, .int tr.2.2.2]))] → va_S A s.heap H locs → ∀ (ls : Array Slot), lv_has ls 3 [(0, .ref ox), (1, .int ps), (2, .int i)] → W p l e (headSpec (Cond.code yX2_skip cX2_skip 3 (some .int) :: G) ({ frames := 3, cells := 0, slots := 0, locals := 62 } : Room)).room s m args below meth c H locs 0 0 (MQ below (va_Qi (fun (r : Int32) (u : Tk) => (r, u) = z) (fun (u : Tk) (t : State) => va_P (dC, dI) vwCl [(ox, .inr (2, [.int st, .int lf, .int ao, .ref ow, .ref og, .ref oc, .ref od, .int bad])), (ow, .inr (0, [.int lf, .ref oaw, .int wr.2])), (oaw, .inl (cIw, 600, .inl wr.1)), (og, .inr (1, [.ref ow, .int st, .int sib, .int tw.1, .int tw.2.1, .int tw.2.2.1, .int tw.2.2.2])), (oc, .inr (0, [.int lf, .ref oac, .int cr.2])), (oac, .inl (cIc, 600, .inl cr.1)), (od, .inr (1, [.ref oc, .int st, .int sib, .int u.1, .int u.2.1, .int u.2.2.1, .int u.2.2.2]))] t.heap ∧ va_D A [(ox, .inr (2, [.int st, .int lf, .int ao, .ref ow, .ref og, .ref oc, .ref od, .int bad])), (ow, .inr (0, [.int lf, .ref oaw, .int wr.2])), (oaw, .inl (cIw, 600, .inl wr.1)), (og, .inr (1, [.ref ow, .int st, .int sib, .int tw.1, .int tw.2.1, .int tw.2.2.1, .int tw.2.2.2])), (oc, .inr (0, [.int lf, .ref oac, .int cr.2])), (oac, .inl (cIc, 600, .inl cr.1)), (od, .inr (1, [.ref oc, .int st, .int sib, .int u.1, .int u.2.1, .int u.2.2.1, .int u.2.2.2]))]) A) args s 0 0 A) (F0 m 23 ls []) := by
  intro n
  induction n with
  | zero =>
    intro wr tw cr tr bad ps i hf hz
    exact absurd hf.1 (Nat.lt_irrefl 0)
  | succ n ih =>
    intro wr tw cr tr bad ps i hf hz H locs hP hD hS ls hl
    refine lv_iload_n hx hb dX2_skip_23 rfl (lv_at hl 2 rfl) ?_
    refine lv_bipush (v := 16) hx hb dX2_skip_24 (by decide) ?_
    refine lv_icmp_ge (tgt := 89) hx hb dX2_skip_26 (by decide) (fun c_26 => ?_) (fun c_26 => ?_)
    · refine lv_aload_n hx hb dX2_skip_89 rfl (lv_at hl 0 rfl) ?_
      refine va_get (D := (dC, dI)) (ci := 2) (v := .ref od) (C := RX2) (T := TX2) (N := 8) hx hb hts inGX2 hown hK hP 0 rfl rfl 6 (by decide) (hts _ wd104) (fun _ h9 => h9) rfl dX2_skip_90 ?_
      refine lv_iconst (v := 0) hx hb dX2_skip_93 (by decide) ?_
      refine va_putN (D := (dC, dI)) (ci := 1) (v := .int 0) (ty := .int) (C := RX1) (T := TX1) (N := 7) hx hb hts inGX1 tyX1 tyX1_ok nmX1 hown hK hP hD hS 6 rfl rfl 5 (by decide) (hZ.use zw4 rfl) (fun _ h9 => h9) rfl (by decide +kernel) rfl rfl (Nat.le_of_ble_eq_true rfl) dX2_skip_94 (fun H locs hP hD hS => ?_)
      have hP : va_P (dC, dI) vwCl [(ox, .inr (2, [.int st, .int lf, .int ao, .ref ow, .ref og, .ref oc, .ref od, .int bad])), (ow, .inr (0, [.int lf, .ref oaw, .int wr.2])), (oaw, .inl (cIw, 600, .inl wr.1)), (og, .inr (1, [.ref ow, .int st, .int sib, .int tw.1, .int tw.2.1, .int tw.2.2.1, .int tw.2.2.2])), (oc, .inr (0, [.int lf, .ref oac, .int cr.2])), (oac, .inl (cIc, 600, .inl cr.1)), (od, .inr (1, [.ref oc, .int st, .int sib, .int tr.1, .int tr.2.1, .int 0, .int tr.2.2.2]))] H := hP
      have hD : va_D A [(ox, .inr (2, [.int st, .int lf, .int ao, .ref ow, .ref og, .ref oc, .ref od, .int bad])), (ow, .inr (0, [.int lf, .ref oaw, .int wr.2])), (oaw, .inl (cIw, 600, .inl wr.1)), (og, .inr (1, [.ref ow, .int st, .int sib, .int tw.1, .int tw.2.1, .int tw.2.2.1, .int tw.2.2.2])), (oc, .inr (0, [.int lf, .ref oac, .int cr.2])), (oac, .inl (cIc, 600, .inl cr.1)), (od, .inr (1, [.ref oc, .int st, .int sib, .int tr.1, .int tr.2.1, .int 0, .int tr.2.2.2]))] := hD
      refine lv_iload_n hx hb dX2_skip_97 rfl (lv_at hl 1 rfl) ?_
      have hP9 := hP.sub (ws' := [(ox, .inr (2, [.int st, .int lf, .int ao, .ref ow, .ref og, .ref oc, .ref od, .int bad])), (ow, .inr (0, [.int lf, .ref oaw, .int wr.2])), (oaw, .inl (cIw, 600, .inl wr.1)), (og, .inr (1, [.ref ow, .int st, .int sib, .int tw.1, .int tw.2.1, .int tw.2.2.1, .int tw.2.2.2])), (oc, .inr (0, [.int lf, .ref oac, .int cr.2])), (oac, .inl (cIc, 600, .inl cr.1)), (od, .inr (1, [.ref oc, .int st, .int sib, .int tr.1, .int tr.2.1, .int 0, .int tr.2.2.2]))]) [0, 1, 2, 3, 4, 5, 6] rfl
      have hD9 := hD.sub (ws' := [(ox, .inr (2, [.int st, .int lf, .int ao, .ref ow, .ref og, .ref oc, .ref od, .int bad])), (ow, .inr (0, [.int lf, .ref oaw, .int wr.2])), (oaw, .inl (cIw, 600, .inl wr.1)), (og, .inr (1, [.ref ow, .int st, .int sib, .int tw.1, .int tw.2.1, .int tw.2.2.1, .int tw.2.2.2])), (oc, .inr (0, [.int lf, .ref oac, .int cr.2])), (oac, .inl (cIc, 600, .inl cr.1)), (od, .inr (1, [.ref oc, .int st, .int sib, .int tr.1, .int tr.2.1, .int 0, .int tr.2.2.2]))]) [0, 1, 2, 3, 4, 5, 6] (by decide) rfl
      exact W.iret (v := ps) hx hb hr (fun t ht hW => ⟨⟨ps, (tr.1, tr.2.1, 0, tr.2.2.2), rfl, ((plX2_skip_l23_0 st lf ao sib n wr tw cr tr bad ps i c_26).trans hz), by rw [ht]; exact hP9, hD9⟩, hS.F ht⟩) hS.2.2 dX2_skip_98
    · refine lv_aload_n hx hb dX2_skip_29 rfl (lv_at hl 0 rfl) ?_
      refine va_get (D := (dC, dI)) (ci := 2) (v := .ref od) (C := RX2) (T := TX2) (N := 8) hx hb hts inGX2 hown hK hP 0 rfl rfl 6 (by decide) (hts _ wd104) (fun _ h9 => h9) rfl dX2_skip_30 ?_
      have hPc := hP.sub (ws' := [(od, .inr (1, [.ref oc, .int st, .int sib, .int tr.1, .int tr.2.1, .int tr.2.2.1, .int tr.2.2.2])), (oc, .inr (0, [.int lf, .ref oac, .int cr.2])), (oac, .inl (cIc, 600, .inl cr.1))]) [6, 4, 5] rfl
      have hKc := hK.sub (tys' := [(cIc, .int)]) [1] rfl
      refine vp_callSi (va_Run.run (va_runV (As := []) (rest := []) ⟨hx, hb, hml, hown, hts⟩ (mX1_isAligned l dC dI cIc od oc oac st sib lf tr cr) (cwV 0 hts (gV wd127 wd128 wd129 wd29 wd130) rfl rfl rfl (by decide +kernel) ⟨Nat.le_of_ble_eq_true rfl, Nat.le_of_ble_eq_true rfl⟩) ⟨fb_ro, va_recv hKc hPc (ci := 1) (q0 := 0) rfl rfl, pre_ro hPc hKc hZ⟩ rfl rfl hl.1 rfl (lv_room (Nat.le_of_ble_eq_true rfl)) dX2_skip_33 ⟨Nat.le_of_ble_eq_true rfl, Nat.le_of_ble_eq_true rfl⟩)) (fun r_1 hw_2 => ?_)
      refine lv_if_ne (tgt := 89) hx hb dX2_skip_36 (by decide) (fun c_36 => ?_) (fun c_36 => ?_)
      · refine lv_aload_n hx hb dX2_skip_89 rfl (lv_at hl 0 rfl) ?_
        refine va_get (D := (dC, dI)) (ci := 2) (v := .ref od) (C := RX2) (T := TX2) (N := 8) hx hb hts inGX2 hown hK hP 0 rfl rfl 6 (by decide) (hts _ wd104) (fun _ h9 => h9) rfl dX2_skip_90 ?_
        refine lv_iconst (v := 0) hx hb dX2_skip_93 (by decide) ?_
        refine va_putN (D := (dC, dI)) (ci := 1) (v := .int 0) (ty := .int) (C := RX1) (T := TX1) (N := 7) hx hb hts inGX1 tyX1 tyX1_ok nmX1 hown hK hP hD hS 6 rfl rfl 5 (by decide) (hZ.use zw4 rfl) (fun _ h9 => h9) rfl (by decide +kernel) rfl rfl (Nat.le_of_ble_eq_true rfl) dX2_skip_94 (fun H locs hP hD hS => ?_)
        have hP : va_P (dC, dI) vwCl [(ox, .inr (2, [.int st, .int lf, .int ao, .ref ow, .ref og, .ref oc, .ref od, .int bad])), (ow, .inr (0, [.int lf, .ref oaw, .int wr.2])), (oaw, .inl (cIw, 600, .inl wr.1)), (og, .inr (1, [.ref ow, .int st, .int sib, .int tw.1, .int tw.2.1, .int tw.2.2.1, .int tw.2.2.2])), (oc, .inr (0, [.int lf, .ref oac, .int cr.2])), (oac, .inl (cIc, 600, .inl cr.1)), (od, .inr (1, [.ref oc, .int st, .int sib, .int tr.1, .int tr.2.1, .int 0, .int tr.2.2.2]))] H := hP
        have hD : va_D A [(ox, .inr (2, [.int st, .int lf, .int ao, .ref ow, .ref og, .ref oc, .ref od, .int bad])), (ow, .inr (0, [.int lf, .ref oaw, .int wr.2])), (oaw, .inl (cIw, 600, .inl wr.1)), (og, .inr (1, [.ref ow, .int st, .int sib, .int tw.1, .int tw.2.1, .int tw.2.2.1, .int tw.2.2.2])), (oc, .inr (0, [.int lf, .ref oac, .int cr.2])), (oac, .inl (cIc, 600, .inl cr.1)), (od, .inr (1, [.ref oc, .int st, .int sib, .int tr.1, .int tr.2.1, .int 0, .int tr.2.2.2]))] := hD
        refine lv_iload_n hx hb dX2_skip_97 rfl (lv_at hl 1 rfl) ?_
        have hP9 := hP.sub (ws' := [(ox, .inr (2, [.int st, .int lf, .int ao, .ref ow, .ref og, .ref oc, .ref od, .int bad])), (ow, .inr (0, [.int lf, .ref oaw, .int wr.2])), (oaw, .inl (cIw, 600, .inl wr.1)), (og, .inr (1, [.ref ow, .int st, .int sib, .int tw.1, .int tw.2.1, .int tw.2.2.1, .int tw.2.2.2])), (oc, .inr (0, [.int lf, .ref oac, .int cr.2])), (oac, .inl (cIc, 600, .inl cr.1)), (od, .inr (1, [.ref oc, .int st, .int sib, .int tr.1, .int tr.2.1, .int 0, .int tr.2.2.2]))]) [0, 1, 2, 3, 4, 5, 6] rfl
        have hD9 := hD.sub (ws' := [(ox, .inr (2, [.int st, .int lf, .int ao, .ref ow, .ref og, .ref oc, .ref od, .int bad])), (ow, .inr (0, [.int lf, .ref oaw, .int wr.2])), (oaw, .inl (cIw, 600, .inl wr.1)), (og, .inr (1, [.ref ow, .int st, .int sib, .int tw.1, .int tw.2.1, .int tw.2.2.1, .int tw.2.2.2])), (oc, .inr (0, [.int lf, .ref oac, .int cr.2])), (oac, .inl (cIc, 600, .inl cr.1)), (od, .inr (1, [.ref oc, .int st, .int sib, .int tr.1, .int tr.2.1, .int 0, .int tr.2.2.2]))]) [0, 1, 2, 3, 4, 5, 6] (by decide) rfl
        exact W.iret (v := ps) hx hb hr (fun t ht hW => ⟨⟨ps, (tr.1, tr.2.1, 0, tr.2.2.2), rfl, ((plX2_skip_l23_1 st lf ao sib n wr tw cr tr bad ps i c_26 _ hw_2 c_36).trans hz), by rw [ht]; exact hP9, hD9⟩, hS.F ht⟩) hS.2.2 dX2_skip_98
      · refine lv_aload_n hx hb dX2_skip_39 rfl (lv_at hl 0 rfl) ?_
        refine va_get (D := (dC, dI)) (ci := 2) (v := .ref od) (C := RX2) (T := TX2) (N := 8) hx hb hts inGX2 hown hK hP 0 rfl rfl 6 (by decide) (hts _ wd104) (fun _ h9 => h9) rfl dX2_skip_40 ?_
        have hPc := hP.sub (ws' := [(od, .inr (1, [.ref oc, .int st, .int sib, .int tr.1, .int tr.2.1, .int tr.2.2.1, .int tr.2.2.2])), (oc, .inr (0, [.int lf, .ref oac, .int cr.2])), (oac, .inl (cIc, 600, .inl cr.1))]) [6, 4, 5] rfl
        have hKc := hK.sub (tys' := [(cIc, .int)]) [1] rfl
        refine vp_callSi (va_Run.run (va_runV (As := []) (rest := []) ⟨hx, hb, hml, hown, hts⟩ (mX1_isStuffedDue l dC dI cIc od oc oac st sib lf tr cr) (cwV 0 hts (gV wd142 wd143 wd144 wd29 wd145) rfl rfl rfl (by decide +kernel) ⟨Nat.le_of_ble_eq_true rfl, Nat.le_of_ble_eq_true rfl⟩) ⟨fb_ro, va_recv hKc hPc (ci := 1) (q0 := 0) rfl rfl, pre_ro hPc hKc hZ⟩ rfl rfl hl.1 rfl (lv_room (Nat.le_of_ble_eq_true rfl)) dX2_skip_43 ⟨Nat.le_of_ble_eq_true rfl, Nat.le_of_ble_eq_true rfl⟩)) (fun r_3 hw_4 => ?_)
        refine lv_if_eq (tgt := 59) hx hb dX2_skip_46 (by decide) (fun c_46 => ?_) (fun c_46 => ?_)
        · refine lv_aload_n hx hb dX2_skip_59 rfl (lv_at hl 0 rfl) ?_
          refine va_get (D := (dC, dI)) (ci := 2) (v := .ref od) (C := RX2) (T := TX2) (N := 8) hx hb hts inGX2 hown hK hP 0 rfl rfl 6 (by decide) (hts _ wd104) (fun _ h9 => h9) rfl dX2_skip_60 ?_
          refine lv_aload_n hx hb dX2_skip_63 rfl (lv_at hl 0 rfl) ?_
          refine va_get (D := (dC, dI)) (ci := 2) (v := .ref oc) (C := RX2) (T := TX2) (N := 8) hx hb hts inGX2 hown hK hP 0 rfl rfl 5 (by decide) (hts _ wd103) (fun _ h9 => h9) rfl dX2_skip_64 ?_
          refine lv_aload_n hx hb dX2_skip_67 rfl (lv_at hl 0 rfl) ?_
          refine va_get (D := (dC, dI)) (ci := 2) (v := .ref od) (C := RX2) (T := TX2) (N := 8) hx hb hts inGX2 hown hK hP 0 rfl rfl 6 (by decide) (hts _ wd104) (fun _ h9 => h9) rfl dX2_skip_68 ?_
          refine va_getN (D := (dC, dI)) (ci := 1) (v := .int tr.1) (C := RX1) (T := TX1) (N := 7) hx hb hts inGX1 hown hK hP 6 rfl rfl 3 (by decide) (hZ.use zw2 rfl) (fun _ h9 => h9) rfl dX2_skip_71 ?_
          have hPc := hP.sub (ws' := [(oc, .inr (0, [.int lf, .ref oac, .int cr.2])), (oac, .inl (cIc, 600, .inl cr.1))]) [4, 5] rfl
          have hKc := hK.sub (tys' := [(cIc, .int)]) [1] rfl
          refine vp_callSi (va_Run.run (va_runV (As := [.int tr.1]) (rest := [.ref od]) ⟨hx, hb, hml, hown, hts⟩ (mX0_bitOf l dC dI cIc oc oac lf cr tr.1) (cwV 1 hts (gV wd150 wd151 wd152 wd28 wd153) rfl rfl rfl (by decide +kernel) ⟨Nat.le_of_ble_eq_true rfl, Nat.le_of_ble_eq_true rfl⟩) ⟨fb_ro, va_recv hKc hPc (ci := 0) (q0 := 0) rfl rfl, pre_ro hPc hKc hZ⟩ rfl rfl hl.1 rfl (lv_room (Nat.le_of_ble_eq_true rfl)) dX2_skip_74 ⟨Nat.le_of_ble_eq_true rfl, Nat.le_of_ble_eq_true rfl⟩)) (fun r_5 hw_6 => ?_)
          have hPc := hP.sub (ws' := [(od, .inr (1, [.ref oc, .int st, .int sib, .int tr.1, .int tr.2.1, .int tr.2.2.1, .int tr.2.2.2])), (oc, .inr (0, [.int lf, .ref oac, .int cr.2])), (oac, .inl (cIc, 600, .inl cr.1))]) [6, 4, 5] rfl
          have hKc := hK.sub (tys' := [(cIc, .int)]) [1] rfl
          have hDc := hD.sub (ws' := [(od, .inr (1, [.ref oc, .int st, .int sib, .int tr.1, .int tr.2.1, .int tr.2.2.1, .int tr.2.2.2])), (oc, .inr (0, [.int lf, .ref oac, .int cr.2])), (oac, .inl (cIc, 600, .inl cr.1))]) [6, 4, 5] (by decide) rfl
          have hFc := va_free (wc := [(od, .inr (1, [.ref oc, .int st, .int sib, .int tr.1, .int tr.2.1, .int tr.2.2.1, .int tr.2.2.2])), (oc, .inr (0, [.int lf, .ref oac, .int cr.2])), (oac, .inl (cIc, 600, .inl cr.1))]) hD hS hA [6, 4, 5] rfl
          refine va_callv (va_runV (As := [.int r_5]) (rest := []) ⟨hx, hb, hml, hown, hts⟩ (mX1_stepOver l dC dI cIc od oc oac H.size st sib lf tr cr r_5) (cwV 1 hts (gV wd158 wd159 wd160 wd29 wd161) rfl rfl rfl (by decide +kernel) ⟨Nat.le_of_ble_eq_true rfl, Nat.le_of_ble_eq_true rfl⟩) ⟨fb_rw, va_recv hKc hPc (ci := 1) (q0 := 0) rfl rfl, pre_rw hPc hKc hDc hZ⟩ rfl rfl hl.1 rfl (lv_room (Nat.le_of_ble_eq_true rfl)) dX2_skip_77 ⟨Nat.le_of_ble_eq_true rfl, Nat.le_of_ble_eq_true rfl⟩) hS (fun q _ h => hFc q h) hFc (fun u_8 t H1 locs ht hvm hw_7 hB hz1 hk1 hS => ?_)
          obtain ⟨hP1, hD1⟩ := hB
          rw [ht] at hP1
          obtain ⟨hP, hD⟩ := va_join (wr := [(ox, .inr (2, [.int st, .int lf, .int ao, .ref ow, .ref og, .ref oc, .ref od, .int bad])), (ow, .inr (0, [.int lf, .ref oaw, .int wr.2])), (oaw, .inl (cIw, 600, .inl wr.1)), (og, .inr (1, [.ref ow, .int st, .int sib, .int tw.1, .int tw.2.1, .int tw.2.2.1, .int tw.2.2.2]))]) (w1 := [(od, .inr (1, [.ref oc, .int st, .int sib, .int u_8.1, .int u_8.2.1, .int u_8.2.2.1, .int u_8.2.2.2])), (oc, .inr (0, [.int lf, .ref oac, .int cr.2])), (oac, .inl (cIc, 600, .inl cr.1))]) hP hD [6, 4, 5] [0, 1, 2, 3] rfl rfl (by decide) (by decide) hk1 hFc hP1 hD1
          generalize H1 = H at hP hS ⊢
          have hP : va_P (dC, dI) vwCl [(ox, .inr (2, [.int st, .int lf, .int ao, .ref ow, .ref og, .ref oc, .ref od, .int bad])), (ow, .inr (0, [.int lf, .ref oaw, .int wr.2])), (oaw, .inl (cIw, 600, .inl wr.1)), (og, .inr (1, [.ref ow, .int st, .int sib, .int tw.1, .int tw.2.1, .int tw.2.2.1, .int tw.2.2.2])), (od, .inr (1, [.ref oc, .int st, .int sib, .int u_8.1, .int u_8.2.1, .int u_8.2.2.1, .int u_8.2.2.2])), (oc, .inr (0, [.int lf, .ref oac, .int cr.2])), (oac, .inl (cIc, 600, .inl cr.1))] H := hP
          have hD : va_D A [(ox, .inr (2, [.int st, .int lf, .int ao, .ref ow, .ref og, .ref oc, .ref od, .int bad])), (ow, .inr (0, [.int lf, .ref oaw, .int wr.2])), (oaw, .inl (cIw, 600, .inl wr.1)), (og, .inr (1, [.ref ow, .int st, .int sib, .int tw.1, .int tw.2.1, .int tw.2.2.1, .int tw.2.2.2])), (od, .inr (1, [.ref oc, .int st, .int sib, .int u_8.1, .int u_8.2.1, .int u_8.2.2.1, .int u_8.2.2.2])), (oc, .inr (0, [.int lf, .ref oac, .int cr.2])), (oac, .inl (cIc, 600, .inl cr.1))] := hD
          obtain ⟨i_9, ei_9⟩ : ∃ y : Int32, y = ps + 1 := ⟨_, rfl⟩
          refine lv_iinc (v := i_9) (lv' := [(1, .int i_9), (0, .ref ox), (2, .int i)]) hx hb dX2_skip_80 hl (k := 1) rfl (by rw [ei_9]; rfl) (by decide) rfl (fun ls hl => ?_)
          obtain ⟨i_10, ei_10⟩ : ∃ y : Int32, y = i + 1 := ⟨_, rfl⟩
          refine lv_iinc (v := i_10) (lv' := [(2, .int i_10), (1, .int i_9), (0, .ref ox)]) hx hb dX2_skip_83 hl (k := 2) rfl (by rw [ei_10]; rfl) (by decide) rfl (fun ls hl => ?_)
          refine lv_goto (tgt := 23) hx hb dX2_skip_86 (by decide) ?_
          exact ih wr tw cr u_8 bad i_9 i_10 (fuel_step2 hf (nle_lt c_26) (by assumption)) ((plX2_skip_l23_2 st lf ao sib n wr tw cr tr bad ps i c_26 _ hw_2 c_36 _ hw_4 c_46 _ hw_6 _ hw_7 _ ei_9 _ ei_10).trans hz) _ _ (hP.sub (ws' := [(ox, .inr (2, [.int st, .int lf, .int ao, .ref ow, .ref og, .ref oc, .ref od, .int bad])), (ow, .inr (0, [.int lf, .ref oaw, .int wr.2])), (oaw, .inl (cIw, 600, .inl wr.1)), (og, .inr (1, [.ref ow, .int st, .int sib, .int tw.1, .int tw.2.1, .int tw.2.2.1, .int tw.2.2.2])), (oc, .inr (0, [.int lf, .ref oac, .int cr.2])), (oac, .inl (cIc, 600, .inl cr.1)), (od, .inr (1, [.ref oc, .int st, .int sib, .int u_8.1, .int u_8.2.1, .int u_8.2.2.1, .int u_8.2.2.2]))]) [0, 1, 2, 3, 5, 6, 4] rfl) (hD.sub (ws' := [(ox, .inr (2, [.int st, .int lf, .int ao, .ref ow, .ref og, .ref oc, .ref od, .int bad])), (ow, .inr (0, [.int lf, .ref oaw, .int wr.2])), (oaw, .inl (cIw, 600, .inl wr.1)), (og, .inr (1, [.ref ow, .int st, .int sib, .int tw.1, .int tw.2.1, .int tw.2.2.1, .int tw.2.2.2])), (oc, .inr (0, [.int lf, .ref oac, .int cr.2])), (oac, .inl (cIc, 600, .inl cr.1)), (od, .inr (1, [.ref oc, .int st, .int sib, .int u_8.1, .int u_8.2.1, .int u_8.2.2.1, .int u_8.2.2.2]))]) [0, 1, 2, 3, 5, 6, 4] (by decide) rfl) hS ls (lv_sub hl [2, 1, 0] rfl)
        · refine lv_aload_n hx hb dX2_skip_49 rfl (lv_at hl 0 rfl) ?_
          refine va_get (D := (dC, dI)) (ci := 2) (v := .ref od) (C := RX2) (T := TX2) (N := 8) hx hb hts inGX2 hown hK hP 0 rfl rfl 6 (by decide) (hts _ wd104) (fun _ h9 => h9) rfl dX2_skip_50 ?_
          have hPc := hP.sub (ws' := [(od, .inr (1, [.ref oc, .int st, .int sib, .int tr.1, .int tr.2.1, .int tr.2.2.1, .int tr.2.2.2])), (oc, .inr (0, [.int lf, .ref oac, .int cr.2])), (oac, .inl (cIc, 600, .inl cr.1))]) [6, 4, 5] rfl
          have hKc := hK.sub (tys' := [(cIc, .int)]) [1] rfl
          have hDc := hD.sub (ws' := [(od, .inr (1, [.ref oc, .int st, .int sib, .int tr.1, .int tr.2.1, .int tr.2.2.1, .int tr.2.2.2])), (oc, .inr (0, [.int lf, .ref oac, .int cr.2])), (oac, .inl (cIc, 600, .inl cr.1))]) [6, 4, 5] (by decide) rfl
          have hFc := va_free (wc := [(od, .inr (1, [.ref oc, .int st, .int sib, .int tr.1, .int tr.2.1, .int tr.2.2.1, .int tr.2.2.2])), (oc, .inr (0, [.int lf, .ref oac, .int cr.2])), (oac, .inl (cIc, 600, .inl cr.1))]) hD hS hA [6, 4, 5] rfl
          refine va_callv (va_runV (As := []) (rest := []) ⟨hx, hb, hml, hown, hts⟩ (mX1_stepOverStuffed l dC dI cIc od oc oac H.size st sib lf tr cr) (cwV 0 hts (gV wd146 wd147 wd148 wd29 wd149) rfl rfl rfl (by decide +kernel) ⟨Nat.le_of_ble_eq_true rfl, Nat.le_of_ble_eq_true rfl⟩) ⟨fb_rw, va_recv hKc hPc (ci := 1) (q0 := 0) rfl rfl, pre_rw hPc hKc hDc hZ⟩ rfl rfl hl.1 rfl (lv_room (Nat.le_of_ble_eq_true rfl)) dX2_skip_53 ⟨Nat.le_of_ble_eq_true rfl, Nat.le_of_ble_eq_true rfl⟩) hS (fun q _ h => hFc q h) hFc (fun u_12 t H1 locs ht hvm hw_11 hB hz1 hk1 hS => ?_)
          obtain ⟨hP1, hD1⟩ := hB
          rw [ht] at hP1
          obtain ⟨hP, hD⟩ := va_join (wr := [(ox, .inr (2, [.int st, .int lf, .int ao, .ref ow, .ref og, .ref oc, .ref od, .int bad])), (ow, .inr (0, [.int lf, .ref oaw, .int wr.2])), (oaw, .inl (cIw, 600, .inl wr.1)), (og, .inr (1, [.ref ow, .int st, .int sib, .int tw.1, .int tw.2.1, .int tw.2.2.1, .int tw.2.2.2]))]) (w1 := [(od, .inr (1, [.ref oc, .int st, .int sib, .int u_12.1, .int u_12.2.1, .int u_12.2.2.1, .int u_12.2.2.2])), (oc, .inr (0, [.int lf, .ref oac, .int cr.2])), (oac, .inl (cIc, 600, .inl cr.1))]) hP hD [6, 4, 5] [0, 1, 2, 3] rfl rfl (by decide) (by decide) hk1 hFc hP1 hD1
          generalize H1 = H at hP hS ⊢
          have hP : va_P (dC, dI) vwCl [(ox, .inr (2, [.int st, .int lf, .int ao, .ref ow, .ref og, .ref oc, .ref od, .int bad])), (ow, .inr (0, [.int lf, .ref oaw, .int wr.2])), (oaw, .inl (cIw, 600, .inl wr.1)), (og, .inr (1, [.ref ow, .int st, .int sib, .int tw.1, .int tw.2.1, .int tw.2.2.1, .int tw.2.2.2])), (od, .inr (1, [.ref oc, .int st, .int sib, .int u_12.1, .int u_12.2.1, .int u_12.2.2.1, .int u_12.2.2.2])), (oc, .inr (0, [.int lf, .ref oac, .int cr.2])), (oac, .inl (cIc, 600, .inl cr.1))] H := hP
          have hD : va_D A [(ox, .inr (2, [.int st, .int lf, .int ao, .ref ow, .ref og, .ref oc, .ref od, .int bad])), (ow, .inr (0, [.int lf, .ref oaw, .int wr.2])), (oaw, .inl (cIw, 600, .inl wr.1)), (og, .inr (1, [.ref ow, .int st, .int sib, .int tw.1, .int tw.2.1, .int tw.2.2.1, .int tw.2.2.2])), (od, .inr (1, [.ref oc, .int st, .int sib, .int u_12.1, .int u_12.2.1, .int u_12.2.2.1, .int u_12.2.2.2])), (oc, .inr (0, [.int lf, .ref oac, .int cr.2])), (oac, .inl (cIc, 600, .inl cr.1))] := hD
          refine lv_goto (tgt := 83) hx hb dX2_skip_56 (by decide) ?_
          obtain ⟨i_13, ei_13⟩ : ∃ y : Int32, y = i + 1 := ⟨_, rfl⟩
          refine lv_iinc (v := i_13) (lv' := [(2, .int i_13), (0, .ref ox), (1, .int ps)]) hx hb dX2_skip_83 hl (k := 2) rfl (by rw [ei_13]; rfl) (by decide) rfl (fun ls hl => ?_)
          refine lv_goto (tgt := 23) hx hb dX2_skip_86 (by decide) ?_
          exact ih wr tw cr u_12 bad ps i_13 (fuel_step2 hf (nle_lt c_26) (by assumption)) ((plX2_skip_l23_3 st lf ao sib n wr tw cr tr bad ps i c_26 _ hw_2 c_36 _ hw_4 c_46 _ hw_11 _ ei_13).trans hz) _ _ (hP.sub (ws' := [(ox, .inr (2, [.int st, .int lf, .int ao, .ref ow, .ref og, .ref oc, .ref od, .int bad])), (ow, .inr (0, [.int lf, .ref oaw, .int wr.2])), (oaw, .inl (cIw, 600, .inl wr.1)), (og, .inr (1, [.ref ow, .int st, .int sib, .int tw.1, .int tw.2.1, .int tw.2.2.1, .int tw.2.2.2])), (oc, .inr (0, [.int lf, .ref oac, .int cr.2])), (oac, .inl (cIc, 600, .inl cr.1)), (od, .inr (1, [.ref oc, .int st, .int sib, .int u_12.1, .int u_12.2.1, .int u_12.2.2.1, .int u_12.2.2.2]))]) [0, 1, 2, 3, 5, 6, 4] rfl) (hD.sub (ws' := [(ox, .inr (2, [.int st, .int lf, .int ao, .ref ow, .ref og, .ref oc, .ref od, .int bad])), (ow, .inr (0, [.int lf, .ref oaw, .int wr.2])), (oaw, .inl (cIw, 600, .inl wr.1)), (og, .inr (1, [.ref ow, .int st, .int sib, .int tw.1, .int tw.2.1, .int tw.2.2.1, .int tw.2.2.2])), (oc, .inr (0, [.int lf, .ref oac, .int cr.2])), (oac, .inl (cIc, 600, .inl cr.1)), (od, .inr (1, [.ref oc, .int st, .int sib, .int u_12.1, .int u_12.2.1, .int u_12.2.2.1, .int u_12.2.2.2]))]) [0, 1, 2, 3, 5, 6, 4] (by decide) rfl) hS ls (lv_sub hl [1, 2, 0] rfl)
set_option maxHeartbeats 4000000 in
set_option maxRecDepth 100000 in
theorem mX2_skip (l : Launch) (dC : Nat → ClassId) (dI : Nat → Nat → Nat) (cIw cIc : ClassId) (ox ow oaw og oc oac od : Nat) (sz : Nat) (st : Int32) (lf : Int32) (ao : Int32) (sib : Int32) (wr : Rw) (tw : Tk) (cr : Rw) (tr : Tk) (bad : Int32) : Met l yX2_skip (Cond.code yX2_skip cX2_skip 3 (some .int) :: G) ({ frames := 3, cells := 0, slots := 0, locals := 62 } : Room) (va_Pc [.ref ox] (fun U => U.heap.size = sz ∧ va_P (dC, dI) vwCl [(ox, .inr (2, [.int st, .int lf, .int ao, .ref ow, .ref og, .ref oc, .ref od, .int bad])), (ow, .inr (0, [.int lf, .ref oaw, .int wr.2])), (oaw, .inl (cIw, 600, .inl wr.1)), (og, .inr (1, [.ref ow, .int st, .int sib, .int tw.1, .int tw.2.1, .int tw.2.2.1, .int tw.2.2.2])), (oc, .inr (0, [.int lf, .ref oac, .int cr.2])), (oac, .inl (cIc, 600, .inl cr.1)), (od, .inr (1, [.ref oc, .int st, .int sib, .int tr.1, .int tr.2.1, .int tr.2.2.1, .int tr.2.2.2]))] U.heap ∧ va_K (dC, dI) vwCl [(cIw, .int), (cIc, .int)] U ∧ va_D (fun _ => True) [(ox, .inr (2, [.int st, .int lf, .int ao, .ref ow, .ref og, .ref oc, .ref od, .int bad])), (ow, .inr (0, [.int lf, .ref oaw, .int wr.2])), (oaw, .inl (cIw, 600, .inl wr.1)), (og, .inr (1, [.ref ow, .int st, .int sib, .int tw.1, .int tw.2.1, .int tw.2.2.1, .int tw.2.2.2])), (oc, .inr (0, [.int lf, .ref oac, .int cr.2])), (oac, .inl (cIc, 600, .inl cr.1)), (od, .inr (1, [.ref oc, .int st, .int sib, .int tr.1, .int tr.2.1, .int tr.2.2.1, .int tr.2.2.2]))] ∧ zOk U)) (va_Qi (fun (r : Int32) (u : Tk) => (r, u) = (FX2_skip st lf ao sib wr tw cr tr bad)) (fun (u : Tk) (t : State) => va_P (dC, dI) vwCl [(ox, .inr (2, [.int st, .int lf, .int ao, .ref ow, .ref og, .ref oc, .ref od, .int bad])), (ow, .inr (0, [.int lf, .ref oaw, .int wr.2])), (oaw, .inl (cIw, 600, .inl wr.1)), (og, .inr (1, [.ref ow, .int st, .int sib, .int tw.1, .int tw.2.1, .int tw.2.2.1, .int tw.2.2.2])), (oc, .inr (0, [.int lf, .ref oac, .int cr.2])), (oac, .inl (cIc, 600, .inl cr.1)), (od, .inr (1, [.ref oc, .int st, .int sib, .int u.1, .int u.2.1, .int u.2.2.1, .int u.2.2.2]))] t.heap ∧ va_D (va_A [(ox, .inr (2, [.int st, .int lf, .int ao, .ref ow, .ref og, .ref oc, .ref od, .int bad])), (ow, .inr (0, [.int lf, .ref oaw, .int wr.2])), (oaw, .inl (cIw, 600, .inl wr.1)), (og, .inr (1, [.ref ow, .int st, .int sib, .int tw.1, .int tw.2.1, .int tw.2.2.1, .int tw.2.2.2])), (oc, .inr (0, [.int lf, .ref oac, .int cr.2])), (oac, .inl (cIc, 600, .inl cr.1)), (od, .inr (1, [.ref oc, .int st, .int sib, .int tr.1, .int tr.2.1, .int tr.2.2.1, .int tr.2.2.2]))] sz) [(ox, .inr (2, [.int st, .int lf, .int ao, .ref ow, .ref og, .ref oc, .ref od, .int bad])), (ow, .inr (0, [.int lf, .ref oaw, .int wr.2])), (oaw, .inl (cIw, 600, .inl wr.1)), (og, .inr (1, [.ref ow, .int st, .int sib, .int tw.1, .int tw.2.1, .int tw.2.2.1, .int tw.2.2.2])), (oc, .inr (0, [.int lf, .ref oac, .int cr.2])), (oac, .inl (cIc, 600, .inl cr.1)), (od, .inr (1, [.ref oc, .int st, .int sib, .int u.1, .int u.2.1, .int u.2.2.1, .int u.2.2.2]))]) (va_A [(ox, .inr (2, [.int st, .int lf, .int ao, .ref ow, .ref og, .ref oc, .ref od, .int bad])), (ow, .inr (0, [.int lf, .ref oaw, .int wr.2])), (oaw, .inl (cIw, 600, .inl wr.1)), (og, .inr (1, [.ref ow, .int st, .int sib, .int tw.1, .int tw.2.1, .int tw.2.2.1, .int tw.2.2.2])), (oc, .inr (0, [.int lf, .ref oac, .int cr.2])), (oac, .inl (cIc, 600, .inl cr.1)), (od, .inr (1, [.ref oc, .int st, .int sib, .int tr.1, .int tr.2.1, .int tr.2.2.1, .int tr.2.2.2]))] sz)) 0 0 (va_A [(ox, .inr (2, [.int st, .int lf, .int ao, .ref ow, .ref og, .ref oc, .ref od, .int bad])), (ow, .inr (0, [.int lf, .ref oaw, .int wr.2])), (oaw, .inl (cIw, 600, .inl wr.1)), (og, .inr (1, [.ref ow, .int st, .int sib, .int tw.1, .int tw.2.1, .int tw.2.2.1, .int tw.2.2.2])), (oc, .inr (0, [.int lf, .ref oac, .int cr.2])), (oac, .inl (cIc, 600, .inl cr.1)), (od, .inr (1, [.ref oc, .int st, .int sib, .int tr.1, .int tr.2.1, .int tr.2.2.1, .int tr.2.2.2]))] sz) := by
  refine Met.ofW (cc := cX2_skip) (maxL := 3) (ret := (some .int)) (by decide) rfl ?_
  intro p e s m args below meth c s₁ B hml hv
  obtain ⟨rfl, hsz, hP, hK, hD0, hZ⟩ := hv
  have hx := B.exec
  have hb := B.bytes
  have hr := B.returns
  have hts : ∀ w ∈ G, w.before [.ref ox].toArray s = true := fun w h => atoms_spec (ws := (Cond.code yX2_skip cX2_skip 3 (some .int) :: G)) B.pre w (List.mem_cons_of_mem _ h)
  have hown : s.vm.findClass RX2 = some m.cls := findClass_of_methodNamed B.named
  have hlocks := B.notSynchronized
  subst hsz
  have hD := hD0.self (sz := s.heap.size)
  generalize hAe : va_A [(ox, .inr (2, [.int st, .int lf, .int ao, .ref ow, .ref og, .ref oc, .ref od, .int bad])), (ow, .inr (0, [.int lf, .ref oaw, .int wr.2])), (oaw, .inl (cIw, 600, .inl wr.1)), (og, .inr (1, [.ref ow, .int st, .int sib, .int tw.1, .int tw.2.1, .int tw.2.2.1, .int tw.2.2.2])), (oc, .inr (0, [.int lf, .ref oac, .int cr.2])), (oac, .inl (cIc, 600, .inl cr.1)), (od, .inr (1, [.ref oc, .int st, .int sib, .int tr.1, .int tr.2.1, .int tr.2.2.1, .int tr.2.2.2]))] s.heap.size = A at hD ⊢
  have hA : ∀ q : Nat, s.heap.size ≤ q → A q := fun q h => by rw [← hAe]; exact Or.inr h
  have hS : va_S A s.heap s.heap [] := va_S.rf
  have hP : va_P (dC, dI) vwCl [(ox, .inr (2, [.int st, .int lf, .int ao, .ref ow, .ref og, .ref oc, .ref od, .int bad])), (ow, .inr (0, [.int lf, .ref oaw, .int wr.2])), (oaw, .inl (cIw, 600, .inl wr.1)), (og, .inr (1, [.ref ow, .int st, .int sib, .int tw.1, .int tw.2.1, .int tw.2.2.1, .int tw.2.2.2])), (oc, .inr (0, [.int lf, .ref oac, .int cr.2])), (oac, .inl (cIc, 600, .inl cr.1)), (od, .inr (1, [.ref oc, .int st, .int sib, .int tr.1, .int tr.2.1, .int tr.2.2.1, .int tr.2.2.2]))] s.heap := hP
  have hl := lv_entry ([.ref ox]) (n := 3) (Nat.le_of_ble_eq_true rfl)
  rw [lg_entry_eq]
  generalize (lg_sl ([.ref ox]) ++ List.replicate (3 - (lg_sl ([.ref ox])).length) Slot.unset).toArray = ls at hl ⊢
  have hl : lv_has ls 3 [(0, .ref ox)] := hl
  refine lv_aload_n hx hb dX2_skip_0 rfl (lv_at hl 0 rfl) ?_
  refine va_get (D := (dC, dI)) (ci := 2) (v := .int bad) (C := RX2) (T := TX2) (N := 8) hx hb hts inGX2 hown hK hP 0 rfl rfl 7 (by decide) (hts _ wd105) (fun _ h9 => h9) rfl dX2_skip_1 ?_
  refine lv_if_ne (tgt := 17) hx hb dX2_skip_4 (by decide) (fun c_4 => ?_) (fun c_4 => ?_)
  · refine lv_iconst (v := 0) hx hb dX2_skip_17 (by decide) ?_
    have hP9 := hP.sub (ws' := [(ox, .inr (2, [.int st, .int lf, .int ao, .ref ow, .ref og, .ref oc, .ref od, .int bad])), (ow, .inr (0, [.int lf, .ref oaw, .int wr.2])), (oaw, .inl (cIw, 600, .inl wr.1)), (og, .inr (1, [.ref ow, .int st, .int sib, .int tw.1, .int tw.2.1, .int tw.2.2.1, .int tw.2.2.2])), (oc, .inr (0, [.int lf, .ref oac, .int cr.2])), (oac, .inl (cIc, 600, .inl cr.1)), (od, .inr (1, [.ref oc, .int st, .int sib, .int tr.1, .int tr.2.1, .int tr.2.2.1, .int tr.2.2.2]))]) [0, 1, 2, 3, 4, 5, 6] rfl
    have hD9 := hD.sub (ws' := [(ox, .inr (2, [.int st, .int lf, .int ao, .ref ow, .ref og, .ref oc, .ref od, .int bad])), (ow, .inr (0, [.int lf, .ref oaw, .int wr.2])), (oaw, .inl (cIw, 600, .inl wr.1)), (og, .inr (1, [.ref ow, .int st, .int sib, .int tw.1, .int tw.2.1, .int tw.2.2.1, .int tw.2.2.2])), (oc, .inr (0, [.int lf, .ref oac, .int cr.2])), (oac, .inl (cIc, 600, .inl cr.1)), (od, .inr (1, [.ref oc, .int st, .int sib, .int tr.1, .int tr.2.1, .int tr.2.2.1, .int tr.2.2.2]))]) [0, 1, 2, 3, 4, 5, 6] (by decide) rfl
    exact W.iret (v := 0) hx hb hr (fun t ht hW => ⟨⟨0, tr, rfl, (plX2_skip_0 st lf ao sib wr tw cr tr bad c_4), by rw [ht]; exact hP9, hD9⟩, hS.F ht⟩) hS.2.2 dX2_skip_18
  · refine lv_aload_n hx hb dX2_skip_7 rfl (lv_at hl 0 rfl) ?_
    refine va_get (D := (dC, dI)) (ci := 2) (v := .ref od) (C := RX2) (T := TX2) (N := 8) hx hb hts inGX2 hown hK hP 0 rfl rfl 6 (by decide) (hts _ wd104) (fun _ h9 => h9) rfl dX2_skip_8 ?_
    have hPc := hP.sub (ws' := [(od, .inr (1, [.ref oc, .int st, .int sib, .int tr.1, .int tr.2.1, .int tr.2.2.1, .int tr.2.2.2])), (oc, .inr (0, [.int lf, .ref oac, .int cr.2])), (oac, .inl (cIc, 600, .inl cr.1))]) [6, 4, 5] rfl
    have hKc := hK.sub (tys' := [(cIc, .int)]) [1] rfl
    refine vp_callSi (va_Run.run (va_runV (As := []) (rest := []) ⟨hx, hb, hml, hown, hts⟩ (mX1_isAligned l dC dI cIc od oc oac st sib lf tr cr) (cwV 0 hts (gV wd127 wd128 wd129 wd29 wd130) rfl rfl rfl (by decide +kernel) ⟨Nat.le_of_ble_eq_true rfl, Nat.le_of_ble_eq_true rfl⟩) ⟨fb_ro, va_recv hKc hPc (ci := 1) (q0 := 0) rfl rfl, pre_ro hPc hKc hZ⟩ rfl rfl hl.1 rfl (lv_room (Nat.le_of_ble_eq_true rfl)) dX2_skip_11 ⟨Nat.le_of_ble_eq_true rfl, Nat.le_of_ble_eq_true rfl⟩)) (fun r_1 hw_2 => ?_)
    refine lv_if_eq (tgt := 19) hx hb dX2_skip_14 (by decide) (fun c_14 => ?_) (fun c_14 => ?_)
    · refine lv_iconst (v := 0) hx hb dX2_skip_19 (by decide) ?_
      refine lv_istore_n (lv' := [(1, .int 0), (0, .ref ox)]) hx hb dX2_skip_20 rfl hl (by decide) rfl (fun ls hl => ?_)
      refine lv_iconst (v := 0) hx hb dX2_skip_21 (by decide) ?_
      refine lv_istore_n (lv' := [(2, .int 0), (1, .int 0), (0, .ref ox)]) hx hb dX2_skip_22 rfl hl (by decide) rfl (fun ls hl => ?_)
      exact kX2_skip_23 hx hb hr hml hown hts hlocks hA hZ hK 17 wr tw cr tr bad 0 0 (fuel_of (by decide) (by decide)) (plX2_skip_1 st lf ao sib wr tw cr tr bad c_4 _ hw_2 c_14) _ _ (hP.sub (ws' := [(ox, .inr (2, [.int st, .int lf, .int ao, .ref ow, .ref og, .ref oc, .ref od, .int bad])), (ow, .inr (0, [.int lf, .ref oaw, .int wr.2])), (oaw, .inl (cIw, 600, .inl wr.1)), (og, .inr (1, [.ref ow, .int st, .int sib, .int tw.1, .int tw.2.1, .int tw.2.2.1, .int tw.2.2.2])), (oc, .inr (0, [.int lf, .ref oac, .int cr.2])), (oac, .inl (cIc, 600, .inl cr.1)), (od, .inr (1, [.ref oc, .int st, .int sib, .int tr.1, .int tr.2.1, .int tr.2.2.1, .int tr.2.2.2]))]) [0, 1, 2, 3, 4, 5, 6] rfl) (hD.sub (ws' := [(ox, .inr (2, [.int st, .int lf, .int ao, .ref ow, .ref og, .ref oc, .ref od, .int bad])), (ow, .inr (0, [.int lf, .ref oaw, .int wr.2])), (oaw, .inl (cIw, 600, .inl wr.1)), (og, .inr (1, [.ref ow, .int st, .int sib, .int tw.1, .int tw.2.1, .int tw.2.2.1, .int tw.2.2.2])), (oc, .inr (0, [.int lf, .ref oac, .int cr.2])), (oac, .inl (cIc, 600, .inl cr.1)), (od, .inr (1, [.ref oc, .int st, .int sib, .int tr.1, .int tr.2.1, .int tr.2.2.1, .int tr.2.2.2]))]) [0, 1, 2, 3, 4, 5, 6] (by decide) rfl) hS ls (lv_sub hl [2, 1, 0] rfl)
    · refine lv_iconst (v := 0) hx hb dX2_skip_17 (by decide) ?_
      have hP9 := hP.sub (ws' := [(ox, .inr (2, [.int st, .int lf, .int ao, .ref ow, .ref og, .ref oc, .ref od, .int bad])), (ow, .inr (0, [.int lf, .ref oaw, .int wr.2])), (oaw, .inl (cIw, 600, .inl wr.1)), (og, .inr (1, [.ref ow, .int st, .int sib, .int tw.1, .int tw.2.1, .int tw.2.2.1, .int tw.2.2.2])), (oc, .inr (0, [.int lf, .ref oac, .int cr.2])), (oac, .inl (cIc, 600, .inl cr.1)), (od, .inr (1, [.ref oc, .int st, .int sib, .int tr.1, .int tr.2.1, .int tr.2.2.1, .int tr.2.2.2]))]) [0, 1, 2, 3, 4, 5, 6] rfl
      have hD9 := hD.sub (ws' := [(ox, .inr (2, [.int st, .int lf, .int ao, .ref ow, .ref og, .ref oc, .ref od, .int bad])), (ow, .inr (0, [.int lf, .ref oaw, .int wr.2])), (oaw, .inl (cIw, 600, .inl wr.1)), (og, .inr (1, [.ref ow, .int st, .int sib, .int tw.1, .int tw.2.1, .int tw.2.2.1, .int tw.2.2.2])), (oc, .inr (0, [.int lf, .ref oac, .int cr.2])), (oac, .inl (cIc, 600, .inl cr.1)), (od, .inr (1, [.ref oc, .int st, .int sib, .int tr.1, .int tr.2.1, .int tr.2.2.1, .int tr.2.2.2]))]) [0, 1, 2, 3, 4, 5, 6] (by decide) rfl
      exact W.iret (v := 0) hx hb hr (fun t ht hW => ⟨⟨0, tr, rfl, (plX2_skip_2 st lf ao sib wr tw cr tr bad c_4 _ hw_2 c_14), by rw [ht]; exact hP9, hD9⟩, hS.F ht⟩) hS.2.2 dX2_skip_18
def FX2_take (st : Int32) (lf : Int32) (ao : Int32) (sib : Int32) (wr : Rw) (tw : Tk) (cr : Rw) (tr : Tk) (bad : Int32) : Int32 × Tk :=
  let x_1 := tr.1 >>> (3 &&& 31)
  if bad = 0 then
    if st = 1 then
      let r_2 := FX1_isAtByte st sib lf tr cr
      if r_2 = 0 then
        ((-1), tr)
      else
        let r_4 := FX0_isMarkAt lf cr x_1
        if r_4 = 0 then
          ((-1), tr)
        else
          let u_7 := FX1_stepOverMark st sib lf tr cr
          let r_8 := FX0_byteOf lf cr (x_1 + 1)
          (r_8, u_7)
    else
      ((-1), tr)
  else
    ((-1), tr)
set_option maxRecDepth 100000 in
theorem plX2_take_0 (st : Int32) (lf : Int32) (ao : Int32) (sib : Int32) (wr : Rw) (tw : Tk) (cr : Rw) (tr : Tk) (bad : Int32) (x_1 : Int32) (ex_1 : x_1 = tr.1 >>> (3 &&& 31)) (c_14 : ¬ (bad = 0)) : ((-1), tr) = FX2_take st lf ao sib wr tw cr tr bad := by
  subst ex_1
  exact (if_neg c_14).symm
set_option maxRecDepth 100000 in
theorem plX2_take_1 (st : Int32) (lf : Int32) (ao : Int32) (sib : Int32) (wr : Rw) (tw : Tk) (cr : Rw) (tr : Tk) (bad : Int32) (x_1 : Int32) (ex_1 : x_1 = tr.1 >>> (3 &&& 31)) (c_14 : bad = 0) (c_22 : ¬ (st = 1)) : ((-1), tr) = FX2_take st lf ao sib wr tw cr tr bad := by
  subst ex_1
  exact ((if_pos c_14).trans (if_neg c_22)).symm
set_option maxRecDepth 100000 in
theorem plX2_take_2 (st : Int32) (lf : Int32) (ao : Int32) (sib : Int32) (wr : Rw) (tw : Tk) (cr : Rw) (tr : Tk) (bad : Int32) (x_1 : Int32) (ex_1 : x_1 = tr.1 >>> (3 &&& 31)) (c_14 : bad = 0) (c_22 : st = 1) (r_2 : Int32) (hw_3 : r_2 = FX1_isAtByte st sib lf tr cr) (c_32 : r_2 = 0) : ((-1), tr) = FX2_take st lf ao sib wr tw cr tr bad := by
  subst ex_1
  subst hw_3
  exact (((if_pos c_14).trans (if_pos c_22)).trans (if_pos c_32)).symm
set_option maxRecDepth 100000 in
theorem plX2_take_3 (st : Int32) (lf : Int32) (ao : Int32) (sib : Int32) (wr : Rw) (tw : Tk) (cr : Rw) (tr : Tk) (bad : Int32) (x_1 : Int32) (ex_1 : x_1 = tr.1 >>> (3 &&& 31)) (c_14 : bad = 0) (c_22 : st = 1) (r_2 : Int32) (hw_3 : r_2 = FX1_isAtByte st sib lf tr cr) (c_32 : ¬ (r_2 = 0)) (r_4 : Int32) (hw_5 : r_4 = FX0_isMarkAt lf cr x_1) (c_43 : ¬ (r_4 = 0)) (u_7 : Tk) (hw_6 : u_7 = FX1_stepOverMark st sib lf tr cr) (r_8 : Int32) (hw_9 : r_8 = FX0_byteOf lf cr (x_1 + 1)) : (r_8, u_7) = FX2_take st lf ao sib wr tw cr tr bad := by
  subst ex_1
  subst hw_3
  subst hw_5
  subst hw_6
  subst hw_9
  exact ((((if_pos c_14).trans (if_pos c_22)).trans (if_neg c_32)).trans (if_neg c_43)).symm
set_option maxRecDepth 100000 in
theorem plX2_take_4 (st : Int32) (lf : Int32) (ao : Int32) (sib : Int32) (wr : Rw) (tw : Tk) (cr : Rw) (tr : Tk) (bad : Int32) (x_1 : Int32) (ex_1 : x_1 = tr.1 >>> (3 &&& 31)) (c_14 : bad = 0) (c_22 : st = 1) (r_2 : Int32) (hw_3 : r_2 = FX1_isAtByte st sib lf tr cr) (c_32 : ¬ (r_2 = 0)) (r_4 : Int32) (hw_5 : r_4 = FX0_isMarkAt lf cr x_1) (c_43 : r_4 = 0) : ((-1), tr) = FX2_take st lf ao sib wr tw cr tr bad := by
  subst ex_1
  subst hw_3
  subst hw_5
  exact ((((if_pos c_14).trans (if_pos c_22)).trans (if_neg c_32)).trans (if_pos c_43)).symm
set_option maxHeartbeats 4000000 in
set_option maxRecDepth 100000 in
theorem mX2_take (l : Launch) (dC : Nat → ClassId) (dI : Nat → Nat → Nat) (cIw cIc : ClassId) (ox ow oaw og oc oac od : Nat) (sz : Nat) (st : Int32) (lf : Int32) (ao : Int32) (sib : Int32) (wr : Rw) (tw : Tk) (cr : Rw) (tr : Tk) (bad : Int32) : Met l yX2_take (Cond.code yX2_take cX2_take 2 (some .int) :: G) ({ frames := 2, cells := 0, slots := 0, locals := 42 } : Room) (va_Pc [.ref ox] (fun U => U.heap.size = sz ∧ va_P (dC, dI) vwCl [(ox, .inr (2, [.int st, .int lf, .int ao, .ref ow, .ref og, .ref oc, .ref od, .int bad])), (ow, .inr (0, [.int lf, .ref oaw, .int wr.2])), (oaw, .inl (cIw, 600, .inl wr.1)), (og, .inr (1, [.ref ow, .int st, .int sib, .int tw.1, .int tw.2.1, .int tw.2.2.1, .int tw.2.2.2])), (oc, .inr (0, [.int lf, .ref oac, .int cr.2])), (oac, .inl (cIc, 600, .inl cr.1)), (od, .inr (1, [.ref oc, .int st, .int sib, .int tr.1, .int tr.2.1, .int tr.2.2.1, .int tr.2.2.2]))] U.heap ∧ va_K (dC, dI) vwCl [(cIw, .int), (cIc, .int)] U ∧ va_D (fun _ => True) [(ox, .inr (2, [.int st, .int lf, .int ao, .ref ow, .ref og, .ref oc, .ref od, .int bad])), (ow, .inr (0, [.int lf, .ref oaw, .int wr.2])), (oaw, .inl (cIw, 600, .inl wr.1)), (og, .inr (1, [.ref ow, .int st, .int sib, .int tw.1, .int tw.2.1, .int tw.2.2.1, .int tw.2.2.2])), (oc, .inr (0, [.int lf, .ref oac, .int cr.2])), (oac, .inl (cIc, 600, .inl cr.1)), (od, .inr (1, [.ref oc, .int st, .int sib, .int tr.1, .int tr.2.1, .int tr.2.2.1, .int tr.2.2.2]))] ∧ zOk U)) (va_Qi (fun (r : Int32) (u : Tk) => (r, u) = (FX2_take st lf ao sib wr tw cr tr bad)) (fun (u : Tk) (t : State) => va_P (dC, dI) vwCl [(ox, .inr (2, [.int st, .int lf, .int ao, .ref ow, .ref og, .ref oc, .ref od, .int bad])), (ow, .inr (0, [.int lf, .ref oaw, .int wr.2])), (oaw, .inl (cIw, 600, .inl wr.1)), (og, .inr (1, [.ref ow, .int st, .int sib, .int tw.1, .int tw.2.1, .int tw.2.2.1, .int tw.2.2.2])), (oc, .inr (0, [.int lf, .ref oac, .int cr.2])), (oac, .inl (cIc, 600, .inl cr.1)), (od, .inr (1, [.ref oc, .int st, .int sib, .int u.1, .int u.2.1, .int u.2.2.1, .int u.2.2.2]))] t.heap ∧ va_D (va_A [(ox, .inr (2, [.int st, .int lf, .int ao, .ref ow, .ref og, .ref oc, .ref od, .int bad])), (ow, .inr (0, [.int lf, .ref oaw, .int wr.2])), (oaw, .inl (cIw, 600, .inl wr.1)), (og, .inr (1, [.ref ow, .int st, .int sib, .int tw.1, .int tw.2.1, .int tw.2.2.1, .int tw.2.2.2])), (oc, .inr (0, [.int lf, .ref oac, .int cr.2])), (oac, .inl (cIc, 600, .inl cr.1)), (od, .inr (1, [.ref oc, .int st, .int sib, .int tr.1, .int tr.2.1, .int tr.2.2.1, .int tr.2.2.2]))] sz) [(ox, .inr (2, [.int st, .int lf, .int ao, .ref ow, .ref og, .ref oc, .ref od, .int bad])), (ow, .inr (0, [.int lf, .ref oaw, .int wr.2])), (oaw, .inl (cIw, 600, .inl wr.1)), (og, .inr (1, [.ref ow, .int st, .int sib, .int tw.1, .int tw.2.1, .int tw.2.2.1, .int tw.2.2.2])), (oc, .inr (0, [.int lf, .ref oac, .int cr.2])), (oac, .inl (cIc, 600, .inl cr.1)), (od, .inr (1, [.ref oc, .int st, .int sib, .int u.1, .int u.2.1, .int u.2.2.1, .int u.2.2.2]))]) (va_A [(ox, .inr (2, [.int st, .int lf, .int ao, .ref ow, .ref og, .ref oc, .ref od, .int bad])), (ow, .inr (0, [.int lf, .ref oaw, .int wr.2])), (oaw, .inl (cIw, 600, .inl wr.1)), (og, .inr (1, [.ref ow, .int st, .int sib, .int tw.1, .int tw.2.1, .int tw.2.2.1, .int tw.2.2.2])), (oc, .inr (0, [.int lf, .ref oac, .int cr.2])), (oac, .inl (cIc, 600, .inl cr.1)), (od, .inr (1, [.ref oc, .int st, .int sib, .int tr.1, .int tr.2.1, .int tr.2.2.1, .int tr.2.2.2]))] sz)) 0 0 (va_A [(ox, .inr (2, [.int st, .int lf, .int ao, .ref ow, .ref og, .ref oc, .ref od, .int bad])), (ow, .inr (0, [.int lf, .ref oaw, .int wr.2])), (oaw, .inl (cIw, 600, .inl wr.1)), (og, .inr (1, [.ref ow, .int st, .int sib, .int tw.1, .int tw.2.1, .int tw.2.2.1, .int tw.2.2.2])), (oc, .inr (0, [.int lf, .ref oac, .int cr.2])), (oac, .inl (cIc, 600, .inl cr.1)), (od, .inr (1, [.ref oc, .int st, .int sib, .int tr.1, .int tr.2.1, .int tr.2.2.1, .int tr.2.2.2]))] sz) := by
  refine Met.ofW (cc := cX2_take) (maxL := 2) (ret := (some .int)) (by decide) rfl ?_
  intro p e s m args below meth c s₁ B hml hv
  obtain ⟨rfl, hsz, hP, hK, hD0, hZ⟩ := hv
  have hx := B.exec
  have hb := B.bytes
  have hr := B.returns
  have hts : ∀ w ∈ G, w.before [.ref ox].toArray s = true := fun w h => atoms_spec (ws := (Cond.code yX2_take cX2_take 2 (some .int) :: G)) B.pre w (List.mem_cons_of_mem _ h)
  have hown : s.vm.findClass RX2 = some m.cls := findClass_of_methodNamed B.named
  have hlocks := B.notSynchronized
  subst hsz
  have hD := hD0.self (sz := s.heap.size)
  generalize hAe : va_A [(ox, .inr (2, [.int st, .int lf, .int ao, .ref ow, .ref og, .ref oc, .ref od, .int bad])), (ow, .inr (0, [.int lf, .ref oaw, .int wr.2])), (oaw, .inl (cIw, 600, .inl wr.1)), (og, .inr (1, [.ref ow, .int st, .int sib, .int tw.1, .int tw.2.1, .int tw.2.2.1, .int tw.2.2.2])), (oc, .inr (0, [.int lf, .ref oac, .int cr.2])), (oac, .inl (cIc, 600, .inl cr.1)), (od, .inr (1, [.ref oc, .int st, .int sib, .int tr.1, .int tr.2.1, .int tr.2.2.1, .int tr.2.2.2]))] s.heap.size = A at hD ⊢
  have hA : ∀ q : Nat, s.heap.size ≤ q → A q := fun q h => by rw [← hAe]; exact Or.inr h
  have hS : va_S A s.heap s.heap [] := va_S.rf
  have hP : va_P (dC, dI) vwCl [(ox, .inr (2, [.int st, .int lf, .int ao, .ref ow, .ref og, .ref oc, .ref od, .int bad])), (ow, .inr (0, [.int lf, .ref oaw, .int wr.2])), (oaw, .inl (cIw, 600, .inl wr.1)), (og, .inr (1, [.ref ow, .int st, .int sib, .int tw.1, .int tw.2.1, .int tw.2.2.1, .int tw.2.2.2])), (oc, .inr (0, [.int lf, .ref oac, .int cr.2])), (oac, .inl (cIc, 600, .inl cr.1)), (od, .inr (1, [.ref oc, .int st, .int sib, .int tr.1, .int tr.2.1, .int tr.2.2.1, .int tr.2.2.2]))] s.heap := hP
  have hl := lv_entry ([.ref ox]) (n := 2) (Nat.le_of_ble_eq_true rfl)
  rw [lg_entry_eq]
  generalize (lg_sl ([.ref ox]) ++ List.replicate (2 - (lg_sl ([.ref ox])).length) Slot.unset).toArray = ls at hl ⊢
  have hl : lv_has ls 2 [(0, .ref ox)] := hl
  refine lv_aload_n hx hb dX2_take_0 rfl (lv_at hl 0 rfl) ?_
  refine va_get (D := (dC, dI)) (ci := 2) (v := .ref od) (C := RX2) (T := TX2) (N := 8) hx hb hts inGX2 hown hK hP 0 rfl rfl 6 (by decide) (hts _ wd104) (fun _ h9 => h9) rfl dX2_take_1 ?_
  refine va_getN (D := (dC, dI)) (ci := 1) (v := .int tr.1) (C := RX1) (T := TX1) (N := 7) hx hb hts inGX1 hown hK hP 6 rfl rfl 3 (by decide) (hZ.use zw2 rfl) (fun _ h9 => h9) rfl dX2_take_4 ?_
  refine lv_iconst (v := 3) hx hb dX2_take_7 (by decide) ?_
  refine lv_ishr hx hb dX2_take_8 ?_
  refine lv_topi (fun x_1 ex_1 => ?_)
  refine lv_istore_n (lv' := [(1, .int x_1), (0, .ref ox)]) hx hb dX2_take_9 rfl hl (by decide) rfl (fun ls hl => ?_)
  refine lv_aload_n hx hb dX2_take_10 rfl (lv_at hl 1 rfl) ?_
  refine va_get (D := (dC, dI)) (ci := 2) (v := .int bad) (C := RX2) (T := TX2) (N := 8) hx hb hts inGX2 hown hK hP 0 rfl rfl 7 (by decide) (hts _ wd105) (fun _ h9 => h9) rfl dX2_take_11 ?_
  refine lv_if_ne (tgt := 46) hx hb dX2_take_14 (by decide) (fun c_14 => ?_) (fun c_14 => ?_)
  · refine lv_iconst (v := (-1)) hx hb dX2_take_46 (by decide) ?_
    have hP9 := hP.sub (ws' := [(ox, .inr (2, [.int st, .int lf, .int ao, .ref ow, .ref og, .ref oc, .ref od, .int bad])), (ow, .inr (0, [.int lf, .ref oaw, .int wr.2])), (oaw, .inl (cIw, 600, .inl wr.1)), (og, .inr (1, [.ref ow, .int st, .int sib, .int tw.1, .int tw.2.1, .int tw.2.2.1, .int tw.2.2.2])), (oc, .inr (0, [.int lf, .ref oac, .int cr.2])), (oac, .inl (cIc, 600, .inl cr.1)), (od, .inr (1, [.ref oc, .int st, .int sib, .int tr.1, .int tr.2.1, .int tr.2.2.1, .int tr.2.2.2]))]) [0, 1, 2, 3, 4, 5, 6] rfl
    have hD9 := hD.sub (ws' := [(ox, .inr (2, [.int st, .int lf, .int ao, .ref ow, .ref og, .ref oc, .ref od, .int bad])), (ow, .inr (0, [.int lf, .ref oaw, .int wr.2])), (oaw, .inl (cIw, 600, .inl wr.1)), (og, .inr (1, [.ref ow, .int st, .int sib, .int tw.1, .int tw.2.1, .int tw.2.2.1, .int tw.2.2.2])), (oc, .inr (0, [.int lf, .ref oac, .int cr.2])), (oac, .inl (cIc, 600, .inl cr.1)), (od, .inr (1, [.ref oc, .int st, .int sib, .int tr.1, .int tr.2.1, .int tr.2.2.1, .int tr.2.2.2]))]) [0, 1, 2, 3, 4, 5, 6] (by decide) rfl
    exact W.iret (v := (-1)) hx hb hr (fun t ht hW => ⟨⟨(-1), tr, rfl, (plX2_take_0 st lf ao sib wr tw cr tr bad _ ex_1 c_14), by rw [ht]; exact hP9, hD9⟩, hS.F ht⟩) hS.2.2 dX2_take_47
  · refine lv_aload_n hx hb dX2_take_17 rfl (lv_at hl 1 rfl) ?_
    refine va_get (D := (dC, dI)) (ci := 2) (v := .int st) (C := RX2) (T := TX2) (N := 8) hx hb hts inGX2 hown hK hP 0 rfl rfl 0 (by decide) (hts _ wd98) (fun _ h9 => h9) rfl dX2_take_18 ?_
    refine lv_iconst (v := 1) hx hb dX2_take_21 (by decide) ?_
    refine lv_icmp_ne (tgt := 46) hx hb dX2_take_22 (by decide) (fun c_22 => ?_) (fun c_22 => ?_)
    · refine lv_iconst (v := (-1)) hx hb dX2_take_46 (by decide) ?_
      have hP9 := hP.sub (ws' := [(ox, .inr (2, [.int st, .int lf, .int ao, .ref ow, .ref og, .ref oc, .ref od, .int bad])), (ow, .inr (0, [.int lf, .ref oaw, .int wr.2])), (oaw, .inl (cIw, 600, .inl wr.1)), (og, .inr (1, [.ref ow, .int st, .int sib, .int tw.1, .int tw.2.1, .int tw.2.2.1, .int tw.2.2.2])), (oc, .inr (0, [.int lf, .ref oac, .int cr.2])), (oac, .inl (cIc, 600, .inl cr.1)), (od, .inr (1, [.ref oc, .int st, .int sib, .int tr.1, .int tr.2.1, .int tr.2.2.1, .int tr.2.2.2]))]) [0, 1, 2, 3, 4, 5, 6] rfl
      have hD9 := hD.sub (ws' := [(ox, .inr (2, [.int st, .int lf, .int ao, .ref ow, .ref og, .ref oc, .ref od, .int bad])), (ow, .inr (0, [.int lf, .ref oaw, .int wr.2])), (oaw, .inl (cIw, 600, .inl wr.1)), (og, .inr (1, [.ref ow, .int st, .int sib, .int tw.1, .int tw.2.1, .int tw.2.2.1, .int tw.2.2.2])), (oc, .inr (0, [.int lf, .ref oac, .int cr.2])), (oac, .inl (cIc, 600, .inl cr.1)), (od, .inr (1, [.ref oc, .int st, .int sib, .int tr.1, .int tr.2.1, .int tr.2.2.1, .int tr.2.2.2]))]) [0, 1, 2, 3, 4, 5, 6] (by decide) rfl
      exact W.iret (v := (-1)) hx hb hr (fun t ht hW => ⟨⟨(-1), tr, rfl, (plX2_take_1 st lf ao sib wr tw cr tr bad _ ex_1 c_14 c_22), by rw [ht]; exact hP9, hD9⟩, hS.F ht⟩) hS.2.2 dX2_take_47
    · refine lv_aload_n hx hb dX2_take_25 rfl (lv_at hl 1 rfl) ?_
      refine va_get (D := (dC, dI)) (ci := 2) (v := .ref od) (C := RX2) (T := TX2) (N := 8) hx hb hts inGX2 hown hK hP 0 rfl rfl 6 (by decide) (hts _ wd104) (fun _ h9 => h9) rfl dX2_take_26 ?_
      have hPc := hP.sub (ws' := [(od, .inr (1, [.ref oc, .int st, .int sib, .int tr.1, .int tr.2.1, .int tr.2.2.1, .int tr.2.2.2])), (oc, .inr (0, [.int lf, .ref oac, .int cr.2])), (oac, .inl (cIc, 600, .inl cr.1))]) [6, 4, 5] rfl
      have hKc := hK.sub (tys' := [(cIc, .int)]) [1] rfl
      refine vp_callSi (va_Run.run (va_runV (As := []) (rest := []) ⟨hx, hb, hml, hown, hts⟩ (mX1_isAtByte l dC dI cIc od oc oac st sib lf tr cr) (cwV 0 hts (gV wd166 wd132 wd133 wd29 wd134) rfl rfl rfl (by decide +kernel) ⟨Nat.le_of_ble_eq_true rfl, Nat.le_of_ble_eq_true rfl⟩) ⟨fb_ro, va_recv hKc hPc (ci := 1) (q0 := 0) rfl rfl, pre_ro hPc hKc hZ⟩ rfl rfl hl.1 rfl (lv_room (Nat.le_of_ble_eq_true rfl)) dX2_take_29 ⟨Nat.le_of_ble_eq_true rfl, Nat.le_of_ble_eq_true rfl⟩)) (fun r_2 hw_3 => ?_)
      refine lv_if_eq (tgt := 46) hx hb dX2_take_32 (by decide) (fun c_32 => ?_) (fun c_32 => ?_)
      · refine lv_iconst (v := (-1)) hx hb dX2_take_46 (by decide) ?_
        have hP9 := hP.sub (ws' := [(ox, .inr (2, [.int st, .int lf, .int ao, .ref ow, .ref og, .ref oc, .ref od, .int bad])), (ow, .inr (0, [.int lf, .ref oaw, .int wr.2])), (oaw, .inl (cIw, 600, .inl wr.1)), (og, .inr (1, [.ref ow, .int st, .int sib, .int tw.1, .int tw.2.1, .int tw.2.2.1, .int tw.2.2.2])), (oc, .inr (0, [.int lf, .ref oac, .int cr.2])), (oac, .inl (cIc, 600, .inl cr.1)), (od, .inr (1, [.ref oc, .int st, .int sib, .int tr.1, .int tr.2.1, .int tr.2.2.1, .int tr.2.2.2]))]) [0, 1, 2, 3, 4, 5, 6] rfl
        have hD9 := hD.sub (ws' := [(ox, .inr (2, [.int st, .int lf, .int ao, .ref ow, .ref og, .ref oc, .ref od, .int bad])), (ow, .inr (0, [.int lf, .ref oaw, .int wr.2])), (oaw, .inl (cIw, 600, .inl wr.1)), (og, .inr (1, [.ref ow, .int st, .int sib, .int tw.1, .int tw.2.1, .int tw.2.2.1, .int tw.2.2.2])), (oc, .inr (0, [.int lf, .ref oac, .int cr.2])), (oac, .inl (cIc, 600, .inl cr.1)), (od, .inr (1, [.ref oc, .int st, .int sib, .int tr.1, .int tr.2.1, .int tr.2.2.1, .int tr.2.2.2]))]) [0, 1, 2, 3, 4, 5, 6] (by decide) rfl
        exact W.iret (v := (-1)) hx hb hr (fun t ht hW => ⟨⟨(-1), tr, rfl, (plX2_take_2 st lf ao sib wr tw cr tr bad _ ex_1 c_14 c_22 _ hw_3 c_32), by rw [ht]; exact hP9, hD9⟩, hS.F ht⟩) hS.2.2 dX2_take_47
      · refine lv_aload_n hx hb dX2_take_35 rfl (lv_at hl 1 rfl) ?_
        refine va_get (D := (dC, dI)) (ci := 2) (v := .ref oc) (C := RX2) (T := TX2) (N := 8) hx hb hts inGX2 hown hK hP 0 rfl rfl 5 (by decide) (hts _ wd103) (fun _ h9 => h9) rfl dX2_take_36 ?_
        refine lv_iload_n hx hb dX2_take_39 rfl (lv_at hl 0 rfl) ?_
        have hPc := hP.sub (ws' := [(oc, .inr (0, [.int lf, .ref oac, .int cr.2])), (oac, .inl (cIc, 600, .inl cr.1))]) [4, 5] rfl
        have hKc := hK.sub (tys' := [(cIc, .int)]) [1] rfl
        refine vp_callSi (va_Run.run (va_runV (As := [.int x_1]) (rest := []) ⟨hx, hb, hml, hown, hts⟩ (mX0_isMarkAt l dC dI cIc oc oac lf cr x_1) (cwV 1 hts (gV wd167 wd168 wd169 wd28 wd170) rfl rfl rfl (by decide +kernel) ⟨Nat.le_of_ble_eq_true rfl, Nat.le_of_ble_eq_true rfl⟩) ⟨fb_ro, va_recv hKc hPc (ci := 0) (q0 := 0) rfl rfl, pre_ro hPc hKc hZ⟩ rfl rfl hl.1 rfl (lv_room (Nat.le_of_ble_eq_true rfl)) dX2_take_40 ⟨Nat.le_of_ble_eq_true rfl, Nat.le_of_ble_eq_true rfl⟩)) (fun r_4 hw_5 => ?_)
        refine lv_if_ne (tgt := 48) hx hb dX2_take_43 (by decide) (fun c_43 => ?_) (fun c_43 => ?_)
        · refine lv_aload_n hx hb dX2_take_48 rfl (lv_at hl 1 rfl) ?_
          refine va_get (D := (dC, dI)) (ci := 2) (v := .ref od) (C := RX2) (T := TX2) (N := 8) hx hb hts inGX2 hown hK hP 0 rfl rfl 6 (by decide) (hts _ wd104) (fun _ h9 => h9) rfl dX2_take_49 ?_
          have hPc := hP.sub (ws' := [(od, .inr (1, [.ref oc, .int st, .int sib, .int tr.1, .int tr.2.1, .int tr.2.2.1, .int tr.2.2.2])), (oc, .inr (0, [.int lf, .ref oac, .int cr.2])), (oac, .inl (cIc, 600, .inl cr.1))]) [6, 4, 5] rfl
          have hKc := hK.sub (tys' := [(cIc, .int)]) [1] rfl
          have hDc := hD.sub (ws' := [(od, .inr (1, [.ref oc, .int st, .int sib, .int tr.1, .int tr.2.1, .int tr.2.2.1, .int tr.2.2.2])), (oc, .inr (0, [.int lf, .ref oac, .int cr.2])), (oac, .inl (cIc, 600, .inl cr.1))]) [6, 4, 5] (by decide) rfl
          have hFc := va_free (wc := [(od, .inr (1, [.ref oc, .int st, .int sib, .int tr.1, .int tr.2.1, .int tr.2.2.1, .int tr.2.2.2])), (oc, .inr (0, [.int lf, .ref oac, .int cr.2])), (oac, .inl (cIc, 600, .inl cr.1))]) hD hS hA [6, 4, 5] rfl
          refine va_callv (va_runV (As := []) (rest := []) ⟨hx, hb, hml, hown, hts⟩ (mX1_stepOverMark l dC dI cIc od oc oac s.heap.size st sib lf tr cr) (cwV 0 hts (gV wd171 wd172 wd173 wd29 wd174) rfl rfl rfl (by decide +kernel) ⟨Nat.le_of_ble_eq_true rfl, Nat.le_of_ble_eq_true rfl⟩) ⟨fb_rw, va_recv hKc hPc (ci := 1) (q0 := 0) rfl rfl, pre_rw hPc hKc hDc hZ⟩ rfl rfl hl.1 rfl (lv_room (Nat.le_of_ble_eq_true rfl)) dX2_take_52 ⟨Nat.le_of_ble_eq_true rfl, Nat.le_of_ble_eq_true rfl⟩) hS (fun q _ h => hFc q h) hFc (fun u_7 t H1 locs ht hvm hw_6 hB hz1 hk1 hS => ?_)
          obtain ⟨hP1, hD1⟩ := hB
          rw [ht] at hP1
          obtain ⟨hP, hD⟩ := va_join (wr := [(ox, .inr (2, [.int st, .int lf, .int ao, .ref ow, .ref og, .ref oc, .ref od, .int bad])), (ow, .inr (0, [.int lf, .ref oaw, .int wr.2])), (oaw, .inl (cIw, 600, .inl wr.1)), (og, .inr (1, [.ref ow, .int st, .int sib, .int tw.1, .int tw.2.1, .int tw.2.2.1, .int tw.2.2.2]))]) (w1 := [(od, .inr (1, [.ref oc, .int st, .int sib, .int u_7.1, .int u_7.2.1, .int u_7.2.2.1, .int u_7.2.2.2])), (oc, .inr (0, [.int lf, .ref oac, .int cr.2])), (oac, .inl (cIc, 600, .inl cr.1))]) hP hD [6, 4, 5] [0, 1, 2, 3] rfl rfl (by decide) (by decide) hk1 hFc hP1 hD1
          generalize H1 = H at hP hS ⊢
          have hP : va_P (dC, dI) vwCl [(ox, .inr (2, [.int st, .int lf, .int ao, .ref ow, .ref og, .ref oc, .ref od, .int bad])), (ow, .inr (0, [.int lf, .ref oaw, .int wr.2])), (oaw, .inl (cIw, 600, .inl wr.1)), (og, .inr (1, [.ref ow, .int st, .int sib, .int tw.1, .int tw.2.1, .int tw.2.2.1, .int tw.2.2.2])), (od, .inr (1, [.ref oc, .int st, .int sib, .int u_7.1, .int u_7.2.1, .int u_7.2.2.1, .int u_7.2.2.2])), (oc, .inr (0, [.int lf, .ref oac, .int cr.2])), (oac, .inl (cIc, 600, .inl cr.1))] H := hP
          have hD : va_D A [(ox, .inr (2, [.int st, .int lf, .int ao, .ref ow, .ref og, .ref oc, .ref od, .int bad])), (ow, .inr (0, [.int lf, .ref oaw, .int wr.2])), (oaw, .inl (cIw, 600, .inl wr.1)), (og, .inr (1, [.ref ow, .int st, .int sib, .int tw.1, .int tw.2.1, .int tw.2.2.1, .int tw.2.2.2])), (od, .inr (1, [.ref oc, .int st, .int sib, .int u_7.1, .int u_7.2.1, .int u_7.2.2.1, .int u_7.2.2.2])), (oc, .inr (0, [.int lf, .ref oac, .int cr.2])), (oac, .inl (cIc, 600, .inl cr.1))] := hD
          refine lv_aload_n hx hb dX2_take_55 rfl (lv_at hl 1 rfl) ?_
          refine va_get (D := (dC, dI)) (ci := 2) (v := .ref oc) (C := RX2) (T := TX2) (N := 8) hx hb hts inGX2 hown hK hP 0 rfl rfl 5 (by decide) (hts _ wd103) (fun _ h9 => h9) rfl dX2_take_56 ?_
          refine lv_iload_n hx hb dX2_take_59 rfl (lv_at hl 0 rfl) ?_
          refine lv_iconst (v := 1) hx hb dX2_take_60 (by decide) ?_
          refine lv_iadd hx hb dX2_take_61 ?_
          have hPc := hP.sub (ws' := [(oc, .inr (0, [.int lf, .ref oac, .int cr.2])), (oac, .inl (cIc, 600, .inl cr.1))]) [5, 6] rfl
          have hKc := hK.sub (tys' := [(cIc, .int)]) [1] rfl
          refine vp_callSi (va_Run.run (va_runV (As := [.int (x_1 + 1)]) (rest := []) ⟨hx, hb, hml, hown, hts⟩ (mX0_byteOf l dC dI cIc oc oac lf cr (x_1 + 1)) (cwV 1 hts (gV wd175 wd139 wd140 wd28 wd141) rfl rfl rfl (by decide +kernel) ⟨Nat.le_of_ble_eq_true rfl, Nat.le_of_ble_eq_true rfl⟩) ⟨fb_ro, va_recv hKc hPc (ci := 0) (q0 := 0) rfl rfl, pre_ro hPc hKc hZ⟩ rfl rfl hl.1 rfl (lv_room (Nat.le_of_ble_eq_true rfl)) dX2_take_62 ⟨Nat.le_of_ble_eq_true rfl, Nat.le_of_ble_eq_true rfl⟩)) (fun r_8 hw_9 => ?_)
          have hP9 := hP.sub (ws' := [(ox, .inr (2, [.int st, .int lf, .int ao, .ref ow, .ref og, .ref oc, .ref od, .int bad])), (ow, .inr (0, [.int lf, .ref oaw, .int wr.2])), (oaw, .inl (cIw, 600, .inl wr.1)), (og, .inr (1, [.ref ow, .int st, .int sib, .int tw.1, .int tw.2.1, .int tw.2.2.1, .int tw.2.2.2])), (oc, .inr (0, [.int lf, .ref oac, .int cr.2])), (oac, .inl (cIc, 600, .inl cr.1)), (od, .inr (1, [.ref oc, .int st, .int sib, .int u_7.1, .int u_7.2.1, .int u_7.2.2.1, .int u_7.2.2.2]))]) [0, 1, 2, 3, 5, 6, 4] rfl
          have hD9 := hD.sub (ws' := [(ox, .inr (2, [.int st, .int lf, .int ao, .ref ow, .ref og, .ref oc, .ref od, .int bad])), (ow, .inr (0, [.int lf, .ref oaw, .int wr.2])), (oaw, .inl (cIw, 600, .inl wr.1)), (og, .inr (1, [.ref ow, .int st, .int sib, .int tw.1, .int tw.2.1, .int tw.2.2.1, .int tw.2.2.2])), (oc, .inr (0, [.int lf, .ref oac, .int cr.2])), (oac, .inl (cIc, 600, .inl cr.1)), (od, .inr (1, [.ref oc, .int st, .int sib, .int u_7.1, .int u_7.2.1, .int u_7.2.2.1, .int u_7.2.2.2]))]) [0, 1, 2, 3, 5, 6, 4] (by decide) rfl
          exact W.iret (v := r_8) hx hb hr (fun t ht hW => ⟨⟨r_8, u_7, rfl, (plX2_take_3 st lf ao sib wr tw cr tr bad _ ex_1 c_14 c_22 _ hw_3 c_32 _ hw_5 c_43 _ hw_6 _ hw_9), by rw [ht]; exact hP9, hD9⟩, hS.F ht⟩) hS.2.2 dX2_take_65
        · refine lv_iconst (v := (-1)) hx hb dX2_take_46 (by decide) ?_
          have hP9 := hP.sub (ws' := [(ox, .inr (2, [.int st, .int lf, .int ao, .ref ow, .ref og, .ref oc, .ref od, .int bad])), (ow, .inr (0, [.int lf, .ref oaw, .int wr.2])), (oaw, .inl (cIw, 600, .inl wr.1)), (og, .inr (1, [.ref ow, .int st, .int sib, .int tw.1, .int tw.2.1, .int tw.2.2.1, .int tw.2.2.2])), (oc, .inr (0, [.int lf, .ref oac, .int cr.2])), (oac, .inl (cIc, 600, .inl cr.1)), (od, .inr (1, [.ref oc, .int st, .int sib, .int tr.1, .int tr.2.1, .int tr.2.2.1, .int tr.2.2.2]))]) [0, 1, 2, 3, 4, 5, 6] rfl
          have hD9 := hD.sub (ws' := [(ox, .inr (2, [.int st, .int lf, .int ao, .ref ow, .ref og, .ref oc, .ref od, .int bad])), (ow, .inr (0, [.int lf, .ref oaw, .int wr.2])), (oaw, .inl (cIw, 600, .inl wr.1)), (og, .inr (1, [.ref ow, .int st, .int sib, .int tw.1, .int tw.2.1, .int tw.2.2.1, .int tw.2.2.2])), (oc, .inr (0, [.int lf, .ref oac, .int cr.2])), (oac, .inl (cIc, 600, .inl cr.1)), (od, .inr (1, [.ref oc, .int st, .int sib, .int tr.1, .int tr.2.1, .int tr.2.2.1, .int tr.2.2.2]))]) [0, 1, 2, 3, 4, 5, 6] (by decide) rfl
          exact W.iret (v := (-1)) hx hb hr (fun t ht hW => ⟨⟨(-1), tr, rfl, (plX2_take_4 st lf ao sib wr tw cr tr bad _ ex_1 c_14 c_22 _ hw_3 c_32 _ hw_5 c_43), by rw [ht]; exact hP9, hD9⟩, hS.F ht⟩) hS.2.2 dX2_take_47
def FX2_told (st : Int32) (lf : Int32) (ao : Int32) (sib : Int32) (wr : Rw) (tw : Tk) (cr : Rw) (tr : Tk) (bad : Int32) (p0 : Int32) : Int32 :=
  if p0 = 0 then
    st
  else
    if p0 = 1 then
      if lf = 0 then
        0
      else
        1
    else
      if p0 = 2 then
        tw.1
      else
        if p0 = 3 then
          tw.2.1
        else
          if p0 = 4 then
            cr.2
          else
            if p0 = 5 then
              tr.1
            else
              if p0 = 6 then
                tr.2.1
              else
                if p0 = 7 then
                  if bad = 0 then
                    0
                  else
                    1
                else
                  (-1)
set_option maxRecDepth 100000 in
theorem plX2_told_0 (st : Int32) (lf : Int32) (ao : Int32) (sib : Int32) (wr : Rw) (tw : Tk) (cr : Rw) (tr : Tk) (bad : Int32) (p0 : Int32) (c1_0 : p0 = 0) : st = FX2_told st lf ao sib wr tw cr tr bad p0 := by
  exact (if_pos c1_0).symm
set_option maxRecDepth 100000 in
theorem plX2_told_1 (st : Int32) (lf : Int32) (ao : Int32) (sib : Int32) (wr : Rw) (tw : Tk) (cr : Rw) (tr : Tk) (bad : Int32) (p0 : Int32) (c1_0 : ¬ (p0 = 0)) (c1_1 : p0 = 1) (c_57 : lf = 0) : 0 = FX2_told st lf ao sib wr tw cr tr bad p0 := by
  exact (((if_neg c1_0).trans (if_pos c1_1)).trans (if_pos c_57)).symm
set_option maxRecDepth 100000 in
theorem plX2_told_2 (st : Int32) (lf : Int32) (ao : Int32) (sib : Int32) (wr : Rw) (tw : Tk) (cr : Rw) (tr : Tk) (bad : Int32) (p0 : Int32) (c1_0 : ¬ (p0 = 0)) (c1_1 : p0 = 1) (c_57 : ¬ (lf = 0)) : 1 = FX2_told st lf ao sib wr tw cr tr bad p0 := by
  exact (((if_neg c1_0).trans (if_pos c1_1)).trans (if_neg c_57)).symm
set_option maxRecDepth 100000 in
theorem plX2_told_3 (st : Int32) (lf : Int32) (ao : Int32) (sib : Int32) (wr : Rw) (tw : Tk) (cr : Rw) (tr : Tk) (bad : Int32) (p0 : Int32) (c1_0 : ¬ (p0 = 0)) (c1_1 : ¬ (p0 = 1)) (c1_2 : p0 = 2) : tw.1 = FX2_told st lf ao sib wr tw cr tr bad p0 := by
  exact (((if_neg c1_0).trans (if_neg c1_1)).trans (if_pos c1_2)).symm
set_option maxRecDepth 100000 in
theorem plX2_told_4 (st : Int32) (lf : Int32) (ao : Int32) (sib : Int32) (wr : Rw) (tw : Tk) (cr : Rw) (tr : Tk) (bad : Int32) (p0 : Int32) (c1_0 : ¬ (p0 = 0)) (c1_1 : ¬ (p0 = 1)) (c1_2 : ¬ (p0 = 2)) (c1_3 : p0 = 3) : tw.2.1 = FX2_told st lf ao sib wr tw cr tr bad p0 := by
  exact ((((if_neg c1_0).trans (if_neg c1_1)).trans (if_neg c1_2)).trans (if_pos c1_3)).symm
set_option maxRecDepth 100000 in
theorem plX2_told_5 (st : Int32) (lf : Int32) (ao : Int32) (sib : Int32) (wr : Rw) (tw : Tk) (cr : Rw) (tr : Tk) (bad : Int32) (p0 : Int32) (c1_0 : ¬ (p0 = 0)) (c1_1 : ¬ (p0 = 1)) (c1_2 : ¬ (p0 = 2)) (c1_3 : ¬ (p0 = 3)) (c1_4 : p0 = 4) : cr.2 = FX2_told st lf ao sib wr tw cr tr bad p0 := by
  exact (((((if_neg c1_0).trans (if_neg c1_1)).trans (if_neg c1_2)).trans (if_neg c1_3)).trans (if_pos c1_4)).symm
set_option maxRecDepth 100000 in
theorem plX2_told_6 (st : Int32) (lf : Int32) (ao : Int32) (sib : Int32) (wr : Rw) (tw : Tk) (cr : Rw) (tr : Tk) (bad : Int32) (p0 : Int32) (c1_0 : ¬ (p0 = 0)) (c1_1 : ¬ (p0 = 1)) (c1_2 : ¬ (p0 = 2)) (c1_3 : ¬ (p0 = 3)) (c1_4 : ¬ (p0 = 4)) (c1_5 : p0 = 5) : tr.1 = FX2_told st lf ao sib wr tw cr tr bad p0 := by
  exact ((((((if_neg c1_0).trans (if_neg c1_1)).trans (if_neg c1_2)).trans (if_neg c1_3)).trans (if_neg c1_4)).trans (if_pos c1_5)).symm
set_option maxRecDepth 100000 in
theorem plX2_told_7 (st : Int32) (lf : Int32) (ao : Int32) (sib : Int32) (wr : Rw) (tw : Tk) (cr : Rw) (tr : Tk) (bad : Int32) (p0 : Int32) (c1_0 : ¬ (p0 = 0)) (c1_1 : ¬ (p0 = 1)) (c1_2 : ¬ (p0 = 2)) (c1_3 : ¬ (p0 = 3)) (c1_4 : ¬ (p0 = 4)) (c1_5 : ¬ (p0 = 5)) (c1_6 : p0 = 6) : tr.2.1 = FX2_told st lf ao sib wr tw cr tr bad p0 := by
  exact (((((((if_neg c1_0).trans (if_neg c1_1)).trans (if_neg c1_2)).trans (if_neg c1_3)).trans (if_neg c1_4)).trans (if_neg c1_5)).trans (if_pos c1_6)).symm
set_option maxRecDepth 100000 in
theorem plX2_told_8 (st : Int32) (lf : Int32) (ao : Int32) (sib : Int32) (wr : Rw) (tw : Tk) (cr : Rw) (tr : Tk) (bad : Int32) (p0 : Int32) (c1_0 : ¬ (p0 = 0)) (c1_1 : ¬ (p0 = 1)) (c1_2 : ¬ (p0 = 2)) (c1_3 : ¬ (p0 = 3)) (c1_4 : ¬ (p0 = 4)) (c1_5 : ¬ (p0 = 5)) (c1_6 : ¬ (p0 = 6)) (c1_7 : p0 = 7) (c_110 : bad = 0) : 0 = FX2_told st lf ao sib wr tw cr tr bad p0 := by
  exact (((((((((if_neg c1_0).trans (if_neg c1_1)).trans (if_neg c1_2)).trans (if_neg c1_3)).trans (if_neg c1_4)).trans (if_neg c1_5)).trans (if_neg c1_6)).trans (if_pos c1_7)).trans (if_pos c_110)).symm
set_option maxRecDepth 100000 in
theorem plX2_told_9 (st : Int32) (lf : Int32) (ao : Int32) (sib : Int32) (wr : Rw) (tw : Tk) (cr : Rw) (tr : Tk) (bad : Int32) (p0 : Int32) (c1_0 : ¬ (p0 = 0)) (c1_1 : ¬ (p0 = 1)) (c1_2 : ¬ (p0 = 2)) (c1_3 : ¬ (p0 = 3)) (c1_4 : ¬ (p0 = 4)) (c1_5 : ¬ (p0 = 5)) (c1_6 : ¬ (p0 = 6)) (c1_7 : p0 = 7) (c_110 : ¬ (bad = 0)) : 1 = FX2_told st lf ao sib wr tw cr tr bad p0 := by
  exact (((((((((if_neg c1_0).trans (if_neg c1_1)).trans (if_neg c1_2)).trans (if_neg c1_3)).trans (if_neg c1_4)).trans (if_neg c1_5)).trans (if_neg c1_6)).trans (if_pos c1_7)).trans (if_neg c_110)).symm
set_option maxRecDepth 100000 in
theorem plX2_told_10 (st : Int32) (lf : Int32) (ao : Int32) (sib : Int32) (wr : Rw) (tw : Tk) (cr : Rw) (tr : Tk) (bad : Int32) (p0 : Int32) (c1_0 : ¬ (p0 = 0)) (c1_1 : ¬ (p0 = 1)) (c1_2 : ¬ (p0 = 2)) (c1_3 : ¬ (p0 = 3)) (c1_4 : ¬ (p0 = 4)) (c1_5 : ¬ (p0 = 5)) (c1_6 : ¬ (p0 = 6)) (c1_7 : ¬ (p0 = 7)) : (-1) = FX2_told st lf ao sib wr tw cr tr bad p0 := by
  exact ((((((((if_neg c1_0).trans (if_neg c1_1)).trans (if_neg c1_2)).trans (if_neg c1_3)).trans (if_neg c1_4)).trans (if_neg c1_5)).trans (if_neg c1_6)).trans (if_neg c1_7)).symm
set_option maxHeartbeats 4000000 in
set_option maxRecDepth 100000 in
theorem mX2_told (l : Launch) (dC : Nat → ClassId) (dI : Nat → Nat → Nat) (cIw cIc : ClassId) (ox ow oaw og oc oac od : Nat) (st : Int32) (lf : Int32) (ao : Int32) (sib : Int32) (wr : Rw) (tw : Tk) (cr : Rw) (tr : Tk) (bad : Int32) (p0 : Int32) : Met l yX2_told (Cond.code yX2_told cX2_told 2 (some .int) :: G) ({ frames := 0, cells := 0, slots := 0, locals := 0 } : Room) (va_Pc [.ref ox, .int p0] (fun U => va_P (dC, dI) vwCl [(ox, .inr (2, [.int st, .int lf, .int ao, .ref ow, .ref og, .ref oc, .ref od, .int bad])), (ow, .inr (0, [.int lf, .ref oaw, .int wr.2])), (oaw, .inl (cIw, 600, .inl wr.1)), (og, .inr (1, [.ref ow, .int st, .int sib, .int tw.1, .int tw.2.1, .int tw.2.2.1, .int tw.2.2.2])), (oc, .inr (0, [.int lf, .ref oac, .int cr.2])), (oac, .inl (cIc, 600, .inl cr.1)), (od, .inr (1, [.ref oc, .int st, .int sib, .int tr.1, .int tr.2.1, .int tr.2.2.1, .int tr.2.2.2]))] U.heap ∧ va_K (dC, dI) vwCl [(cIw, .int), (cIc, .int)] U ∧ zOk U)) (vp_Si (fun r => r = (FX2_told st lf ao sib wr tw cr tr bad p0))) 0 0 (fun _ => False) := by
  refine Met.ofW (cc := cX2_told) (maxL := 2) (ret := (some .int)) (by decide) rfl ?_
  intro p e s m args below meth c s₁ B hml hv
  obtain ⟨rfl, hP, hK, hZ⟩ := hv
  have hx := B.exec
  have hb := B.bytes
  have hr := B.returns
  have hts : ∀ w ∈ G, w.before [.ref ox, .int p0].toArray s = true := fun w h => atoms_spec (ws := (Cond.code yX2_told cX2_told 2 (some .int) :: G)) B.pre w (List.mem_cons_of_mem _ h)
  have hown : s.vm.findClass RX2 = some m.cls := findClass_of_methodNamed B.named
  have hlocks := B.notSynchronized
  have hl := lv_entry ([.ref ox, .int p0]) (n := 2) (Nat.le_of_ble_eq_true rfl)
  rw [lg_entry_eq]
  generalize (lg_sl ([.ref ox, .int p0]) ++ List.replicate (2 - (lg_sl ([.ref ox, .int p0])).length) Slot.unset).toArray = ls at hl ⊢
  have hl : lv_has ls 2 [(0, .ref ox), (1, .int p0)] := hl
  refine lv_iload_n hx hb dX2_told_0 rfl (lv_at hl 1 rfl) ?_
  by_cases c1_0 : p0 = 0
  · refine lv_tableIn (off := 47) (tgt := 48) hx hb dX2_told_1 (by rw [c1_0]; decide) (by rw [c1_0]; decide) (by rw [c1_0]; decide) (by decide) ?_
    refine lv_aload_n hx hb dX2_told_48 rfl (lv_at hl 0 rfl) ?_
    refine va_get (D := (dC, dI)) (ci := 2) (v := .int st) (C := RX2) (T := TX2) (N := 8) hx hb hts inGX2 hown hK hP 0 rfl rfl 0 (by decide) (hts _ wd98) (fun _ h9 => h9) rfl dX2_told_49 ?_
    exact W.iret (v := st) hx hb hr (fun t ht hW => ⟨st, rfl, (plX2_told_0 st lf ao sib wr tw cr tr bad p0 c1_0), ht⟩) (fun q h => nomatch h) dX2_told_52
  · by_cases c1_1 : p0 = 1
    · refine lv_tableIn (off := 52) (tgt := 53) hx hb dX2_told_1 (by rw [c1_1]; decide) (by rw [c1_1]; decide) (by rw [c1_1]; decide) (by decide) ?_
      refine lv_aload_n hx hb dX2_told_53 rfl (lv_at hl 0 rfl) ?_
      refine va_get (D := (dC, dI)) (ci := 2) (v := .int lf) (C := RX2) (T := TX2) (N := 8) hx hb hts inGX2 hown hK hP 0 rfl rfl 1 (by decide) (hts _ wd99) (fun _ h9 => h9) rfl dX2_told_54 ?_
      refine lv_if_eq (tgt := 64) hx hb dX2_told_57 (by decide) (fun c_57 => ?_) (fun c_57 => ?_)
      · refine lv_iconst (v := 0) hx hb dX2_told_64 (by decide) ?_
        exact W.iret (v := 0) hx hb hr (fun t ht hW => ⟨0, rfl, (plX2_told_1 st lf ao sib wr tw cr tr bad p0 c1_0 c1_1 c_57), ht⟩) (fun q h => nomatch h) dX2_told_65
      · refine lv_iconst (v := 1) hx hb dX2_told_60 (by decide) ?_
        refine lv_goto (tgt := 65) hx hb dX2_told_61 (by decide) ?_
        exact W.iret (v := 1) hx hb hr (fun t ht hW => ⟨1, rfl, (plX2_told_2 st lf ao sib wr tw cr tr bad p0 c1_0 c1_1 c_57), ht⟩) (fun q h => nomatch h) dX2_told_65
    · by_cases c1_2 : p0 = 2
      · refine lv_tableIn (off := 65) (tgt := 66) hx hb dX2_told_1 (by rw [c1_2]; decide) (by rw [c1_2]; decide) (by rw [c1_2]; decide) (by decide) ?_
        refine lv_aload_n hx hb dX2_told_66 rfl (lv_at hl 0 rfl) ?_
        refine va_get (D := (dC, dI)) (ci := 2) (v := .ref og) (C := RX2) (T := TX2) (N := 8) hx hb hts inGX2 hown hK hP 0 rfl rfl 4 (by decide) (hts _ wd102) (fun _ h9 => h9) rfl dX2_told_67 ?_
        refine va_getN (D := (dC, dI)) (ci := 1) (v := .int tw.1) (C := RX1) (T := TX1) (N := 7) hx hb hts inGX1 hown hK hP 3 rfl rfl 3 (by decide) (hZ.use zw2 rfl) (fun _ h9 => h9) rfl dX2_told_70 ?_
        exact W.iret (v := tw.1) hx hb hr (fun t ht hW => ⟨tw.1, rfl, (plX2_told_3 st lf ao sib wr tw cr tr bad p0 c1_0 c1_1 c1_2), ht⟩) (fun q h => nomatch h) dX2_told_73
      · by_cases c1_3 : p0 = 3
        · refine lv_tableIn (off := 73) (tgt := 74) hx hb dX2_told_1 (by rw [c1_3]; decide) (by rw [c1_3]; decide) (by rw [c1_3]; decide) (by decide) ?_
          refine lv_aload_n hx hb dX2_told_74 rfl (lv_at hl 0 rfl) ?_
          refine va_get (D := (dC, dI)) (ci := 2) (v := .ref og) (C := RX2) (T := TX2) (N := 8) hx hb hts inGX2 hown hK hP 0 rfl rfl 4 (by decide) (hts _ wd102) (fun _ h9 => h9) rfl dX2_told_75 ?_
          refine va_getN (D := (dC, dI)) (ci := 1) (v := .int tw.2.1) (C := RX1) (T := TX1) (N := 7) hx hb hts inGX1 hown hK hP 3 rfl rfl 4 (by decide) (hZ.use zw3 rfl) (fun _ h9 => h9) rfl dX2_told_78 ?_
          exact W.iret (v := tw.2.1) hx hb hr (fun t ht hW => ⟨tw.2.1, rfl, (plX2_told_4 st lf ao sib wr tw cr tr bad p0 c1_0 c1_1 c1_2 c1_3), ht⟩) (fun q h => nomatch h) dX2_told_81
        · by_cases c1_4 : p0 = 4
          · refine lv_tableIn (off := 81) (tgt := 82) hx hb dX2_told_1 (by rw [c1_4]; decide) (by rw [c1_4]; decide) (by rw [c1_4]; decide) (by decide) ?_
            refine lv_aload_n hx hb dX2_told_82 rfl (lv_at hl 0 rfl) ?_
            refine va_get (D := (dC, dI)) (ci := 2) (v := .ref oc) (C := RX2) (T := TX2) (N := 8) hx hb hts inGX2 hown hK hP 0 rfl rfl 5 (by decide) (hts _ wd103) (fun _ h9 => h9) rfl dX2_told_83 ?_
            refine va_getN (D := (dC, dI)) (ci := 0) (v := .int cr.2) (C := RX0) (T := TX0) (N := 3) hx hb hts inGX0 hown hK hP 4 rfl rfl 2 (by decide) (hZ.use zw1 rfl) (fun _ h9 => h9) rfl dX2_told_86 ?_
            exact W.iret (v := cr.2) hx hb hr (fun t ht hW => ⟨cr.2, rfl, (plX2_told_5 st lf ao sib wr tw cr tr bad p0 c1_0 c1_1 c1_2 c1_3 c1_4), ht⟩) (fun q h => nomatch h) dX2_told_89
          · by_cases c1_5 : p0 = 5
            · refine lv_tableIn (off := 89) (tgt := 90) hx hb dX2_told_1 (by rw [c1_5]; decide) (by rw [c1_5]; decide) (by rw [c1_5]; decide) (by decide) ?_
              refine lv_aload_n hx hb dX2_told_90 rfl (lv_at hl 0 rfl) ?_
              refine va_get (D := (dC, dI)) (ci := 2) (v := .ref od) (C := RX2) (T := TX2) (N := 8) hx hb hts inGX2 hown hK hP 0 rfl rfl 6 (by decide) (hts _ wd104) (fun _ h9 => h9) rfl dX2_told_91 ?_
              refine va_getN (D := (dC, dI)) (ci := 1) (v := .int tr.1) (C := RX1) (T := TX1) (N := 7) hx hb hts inGX1 hown hK hP 6 rfl rfl 3 (by decide) (hZ.use zw2 rfl) (fun _ h9 => h9) rfl dX2_told_94 ?_
              exact W.iret (v := tr.1) hx hb hr (fun t ht hW => ⟨tr.1, rfl, (plX2_told_6 st lf ao sib wr tw cr tr bad p0 c1_0 c1_1 c1_2 c1_3 c1_4 c1_5), ht⟩) (fun q h => nomatch h) dX2_told_97
            · by_cases c1_6 : p0 = 6
              · refine lv_tableIn (off := 97) (tgt := 98) hx hb dX2_told_1 (by rw [c1_6]; decide) (by rw [c1_6]; decide) (by rw [c1_6]; decide) (by decide) ?_
                refine lv_aload_n hx hb dX2_told_98 rfl (lv_at hl 0 rfl) ?_
                refine va_get (D := (dC, dI)) (ci := 2) (v := .ref od) (C := RX2) (T := TX2) (N := 8) hx hb hts inGX2 hown hK hP 0 rfl rfl 6 (by decide) (hts _ wd104) (fun _ h9 => h9) rfl dX2_told_99 ?_
                refine va_getN (D := (dC, dI)) (ci := 1) (v := .int tr.2.1) (C := RX1) (T := TX1) (N := 7) hx hb hts inGX1 hown hK hP 6 rfl rfl 4 (by decide) (hZ.use zw3 rfl) (fun _ h9 => h9) rfl dX2_told_102 ?_
                exact W.iret (v := tr.2.1) hx hb hr (fun t ht hW => ⟨tr.2.1, rfl, (plX2_told_7 st lf ao sib wr tw cr tr bad p0 c1_0 c1_1 c1_2 c1_3 c1_4 c1_5 c1_6), ht⟩) (fun q h => nomatch h) dX2_told_105
              · by_cases c1_7 : p0 = 7
                · refine lv_tableIn (off := 105) (tgt := 106) hx hb dX2_told_1 (by rw [c1_7]; decide) (by rw [c1_7]; decide) (by rw [c1_7]; decide) (by decide) ?_
                  refine lv_aload_n hx hb dX2_told_106 rfl (lv_at hl 0 rfl) ?_
                  refine va_get (D := (dC, dI)) (ci := 2) (v := .int bad) (C := RX2) (T := TX2) (N := 8) hx hb hts inGX2 hown hK hP 0 rfl rfl 7 (by decide) (hts _ wd105) (fun _ h9 => h9) rfl dX2_told_107 ?_
                  refine lv_if_eq (tgt := 117) hx hb dX2_told_110 (by decide) (fun c_110 => ?_) (fun c_110 => ?_)
                  · refine lv_iconst (v := 0) hx hb dX2_told_117 (by decide) ?_
                    exact W.iret (v := 0) hx hb hr (fun t ht hW => ⟨0, rfl, (plX2_told_8 st lf ao sib wr tw cr tr bad p0 c1_0 c1_1 c1_2 c1_3 c1_4 c1_5 c1_6 c1_7 c_110), ht⟩) (fun q h => nomatch h) dX2_told_118
                  · refine lv_iconst (v := 1) hx hb dX2_told_113 (by decide) ?_
                    refine lv_goto (tgt := 118) hx hb dX2_told_114 (by decide) ?_
                    exact W.iret (v := 1) hx hb hr (fun t ht hW => ⟨1, rfl, (plX2_told_9 st lf ao sib wr tw cr tr bad p0 c1_0 c1_1 c1_2 c1_3 c1_4 c1_5 c1_6 c1_7 c_110), ht⟩) (fun q h => nomatch h) dX2_told_118
                · refine lv_tableOut (tgt := 119) hx hb dX2_told_1 (by have q0 := lv_neT c1_0 (a := 0) (by decide); have q1 := lv_neT c1_1 (a := 1) (by decide); have q2 := lv_neT c1_2 (a := 2) (by decide); have q3 := lv_neT c1_3 (a := 3) (by decide); have q4 := lv_neT c1_4 (a := 4) (by decide); have q5 := lv_neT c1_5 (a := 5) (by decide); have q6 := lv_neT c1_6 (a := 6) (by decide); have q7 := lv_neT c1_7 (a := 7) (by decide); omega) (by decide) ?_
                  refine lv_iconst (v := (-1)) hx hb dX2_told_119 (by decide) ?_
                  exact W.iret (v := (-1)) hx hb hr (fun t ht hW => ⟨(-1), rfl, (plX2_told_10 st lf ao sib wr tw cr tr bad p0 c1_0 c1_1 c1_2 c1_3 c1_4 c1_5 c1_6 c1_7), ht⟩) (fun q h => nomatch h) dX2_told_120
noncomputable def FX2_clear (st : Int32) (lf : Int32) (ao : Int32) (sib : Int32) (wr : Rw) (tw : Tk) (cr : Rw) (tr : Tk) (bad : Int32) : Rw × Tk × Rw × Tk × Int32 :=
  let u_2 := FX0_empty lf wr
  let u_4 := FX1_goToStart st sib lf tw u_2
  let u_6 := FX0_empty lf cr
  let u_8 := FX1_goToStart st sib lf tr u_6
  (u_2, u_4, u_6, u_8, 0)
set_option maxRecDepth 100000 in
theorem plX2_clear_0 (st : Int32) (lf : Int32) (ao : Int32) (sib : Int32) (wr : Rw) (tw : Tk) (cr : Rw) (tr : Tk) (bad : Int32) (u_2 : Rw) (hw_1 : u_2 = FX0_empty lf wr) (u_4 : Tk) (hw_3 : u_4 = FX1_goToStart st sib lf tw u_2) (u_6 : Rw) (hw_5 : u_6 = FX0_empty lf cr) (u_8 : Tk) (hw_7 : u_8 = FX1_goToStart st sib lf tr u_6) : (u_2, u_4, u_6, u_8, 0) = FX2_clear st lf ao sib wr tw cr tr bad := by
  subst hw_1
  subst hw_3
  subst hw_5
  subst hw_7
  exact rfl
set_option maxHeartbeats 4000000 in
set_option maxRecDepth 100000 in
theorem mX2_clear (l : Launch) (dC : Nat → ClassId) (dI : Nat → Nat → Nat) (cIw cIc : ClassId) (ox ow oaw og oc oac od : Nat) (sz : Nat) (st : Int32) (lf : Int32) (ao : Int32) (sib : Int32) (wr : Rw) (tw : Tk) (cr : Rw) (tr : Tk) (bad : Int32) : Met l yX2_clear (Cond.code yX2_clear cX2_clear 1 none :: G) ({ frames := 2, cells := 0, slots := 0, locals := 43 } : Room) (va_Pc [.ref ox] (fun U => U.heap.size = sz ∧ va_P (dC, dI) vwCl [(ox, .inr (2, [.int st, .int lf, .int ao, .ref ow, .ref og, .ref oc, .ref od, .int bad])), (ow, .inr (0, [.int lf, .ref oaw, .int wr.2])), (oaw, .inl (cIw, 600, .inl wr.1)), (og, .inr (1, [.ref ow, .int st, .int sib, .int tw.1, .int tw.2.1, .int tw.2.2.1, .int tw.2.2.2])), (oc, .inr (0, [.int lf, .ref oac, .int cr.2])), (oac, .inl (cIc, 600, .inl cr.1)), (od, .inr (1, [.ref oc, .int st, .int sib, .int tr.1, .int tr.2.1, .int tr.2.2.1, .int tr.2.2.2]))] U.heap ∧ va_K (dC, dI) vwCl [(cIw, .int), (cIc, .int)] U ∧ va_D (fun _ => True) [(ox, .inr (2, [.int st, .int lf, .int ao, .ref ow, .ref og, .ref oc, .ref od, .int bad])), (ow, .inr (0, [.int lf, .ref oaw, .int wr.2])), (oaw, .inl (cIw, 600, .inl wr.1)), (og, .inr (1, [.ref ow, .int st, .int sib, .int tw.1, .int tw.2.1, .int tw.2.2.1, .int tw.2.2.2])), (oc, .inr (0, [.int lf, .ref oac, .int cr.2])), (oac, .inl (cIc, 600, .inl cr.1)), (od, .inr (1, [.ref oc, .int st, .int sib, .int tr.1, .int tr.2.1, .int tr.2.2.1, .int tr.2.2.2]))] ∧ zOk U)) (va_Qv (fun (u : Rw × Tk × Rw × Tk × Int32) => u = (FX2_clear st lf ao sib wr tw cr tr bad)) (fun (u : Rw × Tk × Rw × Tk × Int32) (t : State) => va_P (dC, dI) vwCl [(ox, .inr (2, [.int st, .int lf, .int ao, .ref ow, .ref og, .ref oc, .ref od, .int u.2.2.2.2])), (ow, .inr (0, [.int lf, .ref oaw, .int u.1.2])), (oaw, .inl (cIw, 600, .inl u.1.1)), (og, .inr (1, [.ref ow, .int st, .int sib, .int u.2.1.1, .int u.2.1.2.1, .int u.2.1.2.2.1, .int u.2.1.2.2.2])), (oc, .inr (0, [.int lf, .ref oac, .int u.2.2.1.2])), (oac, .inl (cIc, 600, .inl u.2.2.1.1)), (od, .inr (1, [.ref oc, .int st, .int sib, .int u.2.2.2.1.1, .int u.2.2.2.1.2.1, .int u.2.2.2.1.2.2.1, .int u.2.2.2.1.2.2.2]))] t.heap ∧ va_D (va_A [(ox, .inr (2, [.int st, .int lf, .int ao, .ref ow, .ref og, .ref oc, .ref od, .int bad])), (ow, .inr (0, [.int lf, .ref oaw, .int wr.2])), (oaw, .inl (cIw, 600, .inl wr.1)), (og, .inr (1, [.ref ow, .int st, .int sib, .int tw.1, .int tw.2.1, .int tw.2.2.1, .int tw.2.2.2])), (oc, .inr (0, [.int lf, .ref oac, .int cr.2])), (oac, .inl (cIc, 600, .inl cr.1)), (od, .inr (1, [.ref oc, .int st, .int sib, .int tr.1, .int tr.2.1, .int tr.2.2.1, .int tr.2.2.2]))] sz) [(ox, .inr (2, [.int st, .int lf, .int ao, .ref ow, .ref og, .ref oc, .ref od, .int u.2.2.2.2])), (ow, .inr (0, [.int lf, .ref oaw, .int u.1.2])), (oaw, .inl (cIw, 600, .inl u.1.1)), (og, .inr (1, [.ref ow, .int st, .int sib, .int u.2.1.1, .int u.2.1.2.1, .int u.2.1.2.2.1, .int u.2.1.2.2.2])), (oc, .inr (0, [.int lf, .ref oac, .int u.2.2.1.2])), (oac, .inl (cIc, 600, .inl u.2.2.1.1)), (od, .inr (1, [.ref oc, .int st, .int sib, .int u.2.2.2.1.1, .int u.2.2.2.1.2.1, .int u.2.2.2.1.2.2.1, .int u.2.2.2.1.2.2.2]))]) (va_A [(ox, .inr (2, [.int st, .int lf, .int ao, .ref ow, .ref og, .ref oc, .ref od, .int bad])), (ow, .inr (0, [.int lf, .ref oaw, .int wr.2])), (oaw, .inl (cIw, 600, .inl wr.1)), (og, .inr (1, [.ref ow, .int st, .int sib, .int tw.1, .int tw.2.1, .int tw.2.2.1, .int tw.2.2.2])), (oc, .inr (0, [.int lf, .ref oac, .int cr.2])), (oac, .inl (cIc, 600, .inl cr.1)), (od, .inr (1, [.ref oc, .int st, .int sib, .int tr.1, .int tr.2.1, .int tr.2.2.1, .int tr.2.2.2]))] sz)) 0 0 (va_A [(ox, .inr (2, [.int st, .int lf, .int ao, .ref ow, .ref og, .ref oc, .ref od, .int bad])), (ow, .inr (0, [.int lf, .ref oaw, .int wr.2])), (oaw, .inl (cIw, 600, .inl wr.1)), (og, .inr (1, [.ref ow, .int st, .int sib, .int tw.1, .int tw.2.1, .int tw.2.2.1, .int tw.2.2.2])), (oc, .inr (0, [.int lf, .ref oac, .int cr.2])), (oac, .inl (cIc, 600, .inl cr.1)), (od, .inr (1, [.ref oc, .int st, .int sib, .int tr.1, .int tr.2.1, .int tr.2.2.1, .int tr.2.2.2]))] sz) := by
  refine Met.ofW (cc := cX2_clear) (maxL := 1) (ret := none) (by decide) rfl ?_
  intro p e s m args below meth c s₁ B hml hv
  obtain ⟨rfl, hsz, hP, hK, hD0, hZ⟩ := hv
  have hx := B.exec
  have hb := B.bytes
  have hr := B.returns
  have hts : ∀ w ∈ G, w.before [.ref ox].toArray s = true := fun w h => atoms_spec (ws := (Cond.code yX2_clear cX2_clear 1 none :: G)) B.pre w (List.mem_cons_of_mem _ h)
  have hown : s.vm.findClass RX2 = some m.cls := findClass_of_methodNamed B.named
  have hlocks := B.notSynchronized
  subst hsz
  have hD := hD0.self (sz := s.heap.size)
  generalize hAe : va_A [(ox, .inr (2, [.int st, .int lf, .int ao, .ref ow, .ref og, .ref oc, .ref od, .int bad])), (ow, .inr (0, [.int lf, .ref oaw, .int wr.2])), (oaw, .inl (cIw, 600, .inl wr.1)), (og, .inr (1, [.ref ow, .int st, .int sib, .int tw.1, .int tw.2.1, .int tw.2.2.1, .int tw.2.2.2])), (oc, .inr (0, [.int lf, .ref oac, .int cr.2])), (oac, .inl (cIc, 600, .inl cr.1)), (od, .inr (1, [.ref oc, .int st, .int sib, .int tr.1, .int tr.2.1, .int tr.2.2.1, .int tr.2.2.2]))] s.heap.size = A at hD ⊢
  have hA : ∀ q : Nat, s.heap.size ≤ q → A q := fun q h => by rw [← hAe]; exact Or.inr h
  have hS : va_S A s.heap s.heap [] := va_S.rf
  have hP : va_P (dC, dI) vwCl [(ox, .inr (2, [.int st, .int lf, .int ao, .ref ow, .ref og, .ref oc, .ref od, .int bad])), (ow, .inr (0, [.int lf, .ref oaw, .int wr.2])), (oaw, .inl (cIw, 600, .inl wr.1)), (og, .inr (1, [.ref ow, .int st, .int sib, .int tw.1, .int tw.2.1, .int tw.2.2.1, .int tw.2.2.2])), (oc, .inr (0, [.int lf, .ref oac, .int cr.2])), (oac, .inl (cIc, 600, .inl cr.1)), (od, .inr (1, [.ref oc, .int st, .int sib, .int tr.1, .int tr.2.1, .int tr.2.2.1, .int tr.2.2.2]))] s.heap := hP
  have hl := lv_entry ([.ref ox]) (n := 1) (Nat.le_of_ble_eq_true rfl)
  rw [lg_entry_eq]
  generalize (lg_sl ([.ref ox]) ++ List.replicate (1 - (lg_sl ([.ref ox])).length) Slot.unset).toArray = ls at hl ⊢
  have hl : lv_has ls 1 [(0, .ref ox)] := hl
  refine lv_aload_n hx hb dX2_clear_0 rfl (lv_at hl 0 rfl) ?_
  refine va_get (D := (dC, dI)) (ci := 2) (v := .ref ow) (C := RX2) (T := TX2) (N := 8) hx hb hts inGX2 hown hK hP 0 rfl rfl 3 (by decide) (hts _ wd101) (fun _ h9 => h9) rfl dX2_clear_1 ?_
  have hPc := hP.sub (ws' := [(ow, .inr (0, [.int lf, .ref oaw, .int wr.2])), (oaw, .inl (cIw, 600, .inl wr.1))]) [1, 2] rfl
  have hKc := hK.sub (tys' := [(cIw, .int)]) [0] rfl
  have hDc := hD.sub (ws' := [(ow, .inr (0, [.int lf, .ref oaw, .int wr.2])), (oaw, .inl (cIw, 600, .inl wr.1))]) [1, 2] (by decide) rfl
  have hFc := va_free (wc := [(ow, .inr (0, [.int lf, .ref oaw, .int wr.2])), (oaw, .inl (cIw, 600, .inl wr.1))]) hD hS hA [1, 2] rfl
  refine va_callv (va_runV (As := []) (rest := []) ⟨hx, hb, hml, hown, hts⟩ (mX0_empty l dC dI cIw ow oaw s.heap.size lf wr) (cwV 0 hts (gV wd184 wd185 wd186 wd28 wd187) rfl rfl rfl (by decide +kernel) ⟨Nat.le_of_ble_eq_true rfl, Nat.le_of_ble_eq_true rfl⟩) ⟨fb_rw, va_recv hKc hPc (ci := 0) (q0 := 0) rfl rfl, pre_rw hPc hKc hDc hZ⟩ rfl rfl hl.1 rfl (lv_room (Nat.le_of_ble_eq_true rfl)) dX2_clear_4 ⟨Nat.le_of_ble_eq_true rfl, Nat.le_of_ble_eq_true rfl⟩) hS (fun q _ h => hFc q h) hFc (fun u_2 t H1 locs ht hvm hw_1 hB hz1 hk1 hS => ?_)
  obtain ⟨hP1, hD1⟩ := hB
  rw [ht] at hP1
  obtain ⟨hP, hD⟩ := va_join (wr := [(ox, .inr (2, [.int st, .int lf, .int ao, .ref ow, .ref og, .ref oc, .ref od, .int bad])), (og, .inr (1, [.ref ow, .int st, .int sib, .int tw.1, .int tw.2.1, .int tw.2.2.1, .int tw.2.2.2])), (oc, .inr (0, [.int lf, .ref oac, .int cr.2])), (oac, .inl (cIc, 600, .inl cr.1)), (od, .inr (1, [.ref oc, .int st, .int sib, .int tr.1, .int tr.2.1, .int tr.2.2.1, .int tr.2.2.2]))]) (w1 := [(ow, .inr (0, [.int lf, .ref oaw, .int u_2.2])), (oaw, .inl (cIw, 600, .inl u_2.1))]) hP hD [1, 2] [0, 3, 4, 5, 6] rfl rfl (by decide) (by decide) hk1 hFc hP1 hD1
  generalize H1 = H at hP hS ⊢
  have hP : va_P (dC, dI) vwCl [(ox, .inr (2, [.int st, .int lf, .int ao, .ref ow, .ref og, .ref oc, .ref od, .int bad])), (og, .inr (1, [.ref ow, .int st, .int sib, .int tw.1, .int tw.2.1, .int tw.2.2.1, .int tw.2.2.2])), (oc, .inr (0, [.int lf, .ref oac, .int cr.2])), (oac, .inl (cIc, 600, .inl cr.1)), (od, .inr (1, [.ref oc, .int st, .int sib, .int tr.1, .int tr.2.1, .int tr.2.2.1, .int tr.2.2.2])), (ow, .inr (0, [.int lf, .ref oaw, .int u_2.2])), (oaw, .inl (cIw, 600, .inl u_2.1))] H := hP
  have hD : va_D A [(ox, .inr (2, [.int st, .int lf, .int ao, .ref ow, .ref og, .ref oc, .ref od, .int bad])), (og, .inr (1, [.ref ow, .int st, .int sib, .int tw.1, .int tw.2.1, .int tw.2.2.1, .int tw.2.2.2])), (oc, .inr (0, [.int lf, .ref oac, .int cr.2])), (oac, .inl (cIc, 600, .inl cr.1)), (od, .inr (1, [.ref oc, .int st, .int sib, .int tr.1, .int tr.2.1, .int tr.2.2.1, .int tr.2.2.2])), (ow, .inr (0, [.int lf, .ref oaw, .int u_2.2])), (oaw, .inl (cIw, 600, .inl u_2.1))] := hD
  refine lv_aload_n hx hb dX2_clear_7 rfl (lv_at hl 0 rfl) ?_
  refine va_get (D := (dC, dI)) (ci := 2) (v := .ref og) (C := RX2) (T := TX2) (N := 8) hx hb hts inGX2 hown hK hP 0 rfl rfl 4 (by decide) (hts _ wd102) (fun _ h9 => h9) rfl dX2_clear_8 ?_
  have hPc := hP.sub (ws' := [(og, .inr (1, [.ref ow, .int st, .int sib, .int tw.1, .int tw.2.1, .int tw.2.2.1, .int tw.2.2.2])), (ow, .inr (0, [.int lf, .ref oaw, .int u_2.2])), (oaw, .inl (cIw, 600, .inl u_2.1))]) [1, 5, 6] rfl
  have hKc := hK.sub (tys' := [(cIw, .int)]) [0] rfl
  have hDc := hD.sub (ws' := [(og, .inr (1, [.ref ow, .int st, .int sib, .int tw.1, .int tw.2.1, .int tw.2.2.1, .int tw.2.2.2])), (ow, .inr (0, [.int lf, .ref oaw, .int u_2.2])), (oaw, .inl (cIw, 600, .inl u_2.1))]) [1, 5, 6] (by decide) rfl
  have hFc := va_free (wc := [(og, .inr (1, [.ref ow, .int st, .int sib, .int tw.1, .int tw.2.1, .int tw.2.2.1, .int tw.2.2.2])), (ow, .inr (0, [.int lf, .ref oaw, .int u_2.2])), (oaw, .inl (cIw, 600, .inl u_2.1))]) hD hS hA [1, 5, 6] rfl
  refine va_callv (va_runV (As := []) (rest := []) ⟨hx, hb, hml, hown, hts⟩ (mX1_goToStart l dC dI cIw og ow oaw H.size st sib lf tw u_2) (cwV 0 hts (gV wd191 wd192 wd193 wd29 wd194) rfl rfl rfl (by decide +kernel) ⟨Nat.le_of_ble_eq_true rfl, Nat.le_of_ble_eq_true rfl⟩) ⟨fb_rw, va_recv hKc hPc (ci := 1) (q0 := 0) rfl rfl, pre_rw hPc hKc hDc hZ⟩ rfl rfl hl.1 rfl (lv_room (Nat.le_of_ble_eq_true rfl)) dX2_clear_11 ⟨Nat.le_of_ble_eq_true rfl, Nat.le_of_ble_eq_true rfl⟩) hS (fun q _ h => hFc q h) hFc (fun u_4 t H1 locs ht hvm hw_3 hB hz1 hk1 hS => ?_)
  obtain ⟨hP1, hD1⟩ := hB
  rw [ht] at hP1
  obtain ⟨hP, hD⟩ := va_join (wr := [(ox, .inr (2, [.int st, .int lf, .int ao, .ref ow, .ref og, .ref oc, .ref od, .int bad])), (oc, .inr (0, [.int lf, .ref oac, .int cr.2])), (oac, .inl (cIc, 600, .inl cr.1)), (od, .inr (1, [.ref oc, .int st, .int sib, .int tr.1, .int tr.2.1, .int tr.2.2.1, .int tr.2.2.2]))]) (w1 := [(og, .inr (1, [.ref ow, .int st, .int sib, .int u_4.1, .int u_4.2.1, .int u_4.2.2.1, .int u_4.2.2.2])), (ow, .inr (0, [.int lf, .ref oaw, .int u_2.2])), (oaw, .inl (cIw, 600, .inl u_2.1))]) hP hD [1, 5, 6] [0, 2, 3, 4] rfl rfl (by decide) (by decide) hk1 hFc hP1 hD1
  generalize H1 = H at hP hS ⊢
  have hP : va_P (dC, dI) vwCl [(ox, .inr (2, [.int st, .int lf, .int ao, .ref ow, .ref og, .ref oc, .ref od, .int bad])), (oc, .inr (0, [.int lf, .ref oac, .int cr.2])), (oac, .inl (cIc, 600, .inl cr.1)), (od, .inr (1, [.ref oc, .int st, .int sib, .int tr.1, .int tr.2.1, .int tr.2.2.1, .int tr.2.2.2])), (og, .inr (1, [.ref ow, .int st, .int sib, .int u_4.1, .int u_4.2.1, .int u_4.2.2.1, .int u_4.2.2.2])), (ow, .inr (0, [.int lf, .ref oaw, .int u_2.2])), (oaw, .inl (cIw, 600, .inl u_2.1))] H := hP
  have hD : va_D A [(ox, .inr (2, [.int st, .int lf, .int ao, .ref ow, .ref og, .ref oc, .ref od, .int bad])), (oc, .inr (0, [.int lf, .ref oac, .int cr.2])), (oac, .inl (cIc, 600, .inl cr.1)), (od, .inr (1, [.ref oc, .int st, .int sib, .int tr.1, .int tr.2.1, .int tr.2.2.1, .int tr.2.2.2])), (og, .inr (1, [.ref ow, .int st, .int sib, .int u_4.1, .int u_4.2.1, .int u_4.2.2.1, .int u_4.2.2.2])), (ow, .inr (0, [.int lf, .ref oaw, .int u_2.2])), (oaw, .inl (cIw, 600, .inl u_2.1))] := hD
  refine lv_aload_n hx hb dX2_clear_14 rfl (lv_at hl 0 rfl) ?_
  refine va_get (D := (dC, dI)) (ci := 2) (v := .ref oc) (C := RX2) (T := TX2) (N := 8) hx hb hts inGX2 hown hK hP 0 rfl rfl 5 (by decide) (hts _ wd103) (fun _ h9 => h9) rfl dX2_clear_15 ?_
  have hPc := hP.sub (ws' := [(oc, .inr (0, [.int lf, .ref oac, .int cr.2])), (oac, .inl (cIc, 600, .inl cr.1))]) [1, 2] rfl
  have hKc := hK.sub (tys' := [(cIc, .int)]) [1] rfl
  have hDc := hD.sub (ws' := [(oc, .inr (0, [.int lf, .ref oac, .int cr.2])), (oac, .inl (cIc, 600, .inl cr.1))]) [1, 2] (by decide) rfl
  have hFc := va_free (wc := [(oc, .inr (0, [.int lf, .ref oac, .int cr.2])), (oac, .inl (cIc, 600, .inl cr.1))]) hD hS hA [1, 2] rfl
  refine va_callv (va_runV (As := []) (rest := []) ⟨hx, hb, hml, hown, hts⟩ (mX0_empty l dC dI cIc oc oac H.size lf cr) (cwV 0 hts (gV wd184 wd185 wd186 wd28 wd187) rfl rfl rfl (by decide +kernel) ⟨Nat.le_of_ble_eq_true rfl, Nat.le_of_ble_eq_true rfl⟩) ⟨fb_rw, va_recv hKc hPc (ci := 0) (q0 := 0) rfl rfl, pre_rw hPc hKc hDc hZ⟩ rfl rfl hl.1 rfl (lv_room (Nat.le_of_ble_eq_true rfl)) dX2_clear_18 ⟨Nat.le_of_ble_eq_true rfl, Nat.le_of_ble_eq_true rfl⟩) hS (fun q _ h => hFc q h) hFc (fun u_6 t H1 locs ht hvm hw_5 hB hz1 hk1 hS => ?_)
  obtain ⟨hP1, hD1⟩ := hB
  rw [ht] at hP1
  obtain ⟨hP, hD⟩ := va_join (wr := [(ox, .inr (2, [.int st, .int lf, .int ao, .ref ow, .ref og, .ref oc, .ref od, .int bad])), (od, .inr (1, [.ref oc, .int st, .int sib, .int tr.1, .int tr.2.1, .int tr.2.2.1, .int tr.2.2.2])), (og, .inr (1, [.ref ow, .int st, .int sib, .int u_4.1, .int u_4.2.1, .int u_4.2.2.1, .int u_4.2.2.2])), (ow, .inr (0, [.int lf, .ref oaw, .int u_2.2])), (oaw, .inl (cIw, 600, .inl u_2.1))]) (w1 := [(oc, .inr (0, [.int lf, .ref oac, .int u_6.2])), (oac, .inl (cIc, 600, .inl u_6.1))]) hP hD [1, 2] [0, 3, 4, 5, 6] rfl rfl (by decide) (by decide) hk1 hFc hP1 hD1
  generalize H1 = H at hP hS ⊢
  have hP : va_P (dC, dI) vwCl [(ox, .inr (2, [.int st, .int lf, .int ao, .ref ow, .ref og, .ref oc, .ref od, .int bad])), (od, .inr (1, [.ref oc, .int st, .int sib, .int tr.1, .int tr.2.1, .int tr.2.2.1, .int tr.2.2.2])), (og, .inr (1, [.ref ow, .int st, .int sib, .int u_4.1, .int u_4.2.1, .int u_4.2.2.1, .int u_4.2.2.2])), (ow, .inr (0, [.int lf, .ref oaw, .int u_2.2])), (oaw, .inl (cIw, 600, .inl u_2.1)), (oc, .inr (0, [.int lf, .ref oac, .int u_6.2])), (oac, .inl (cIc, 600, .inl u_6.1))] H := hP
  have hD : va_D A [(ox, .inr (2, [.int st, .int lf, .int ao, .ref ow, .ref og, .ref oc, .ref od, .int bad])), (od, .inr (1, [.ref oc, .int st, .int sib, .int tr.1, .int tr.2.1, .int tr.2.2.1, .int tr.2.2.2])), (og, .inr (1, [.ref ow, .int st, .int sib, .int u_4.1, .int u_4.2.1, .int u_4.2.2.1, .int u_4.2.2.2])), (ow, .inr (0, [.int lf, .ref oaw, .int u_2.2])), (oaw, .inl (cIw, 600, .inl u_2.1)), (oc, .inr (0, [.int lf, .ref oac, .int u_6.2])), (oac, .inl (cIc, 600, .inl u_6.1))] := hD
  refine lv_aload_n hx hb dX2_clear_21 rfl (lv_at hl 0 rfl) ?_
  refine va_get (D := (dC, dI)) (ci := 2) (v := .ref od) (C := RX2) (T := TX2) (N := 8) hx hb hts inGX2 hown hK hP 0 rfl rfl 6 (by decide) (hts _ wd104) (fun _ h9 => h9) rfl dX2_clear_22 ?_
  have hPc := hP.sub (ws' := [(od, .inr (1, [.ref oc, .int st, .int sib, .int tr.1, .int tr.2.1, .int tr.2.2.1, .int tr.2.2.2])), (oc, .inr (0, [.int lf, .ref oac, .int u_6.2])), (oac, .inl (cIc, 600, .inl u_6.1))]) [1, 5, 6] rfl
  have hKc := hK.sub (tys' := [(cIc, .int)]) [1] rfl
  have hDc := hD.sub (ws' := [(od, .inr (1, [.ref oc, .int st, .int sib, .int tr.1, .int tr.2.1, .int tr.2.2.1, .int tr.2.2.2])), (oc, .inr (0, [.int lf, .ref oac, .int u_6.2])), (oac, .inl (cIc, 600, .inl u_6.1))]) [1, 5, 6] (by decide) rfl
  have hFc := va_free (wc := [(od, .inr (1, [.ref oc, .int st, .int sib, .int tr.1, .int tr.2.1, .int tr.2.2.1, .int tr.2.2.2])), (oc, .inr (0, [.int lf, .ref oac, .int u_6.2])), (oac, .inl (cIc, 600, .inl u_6.1))]) hD hS hA [1, 5, 6] rfl
  refine va_callv (va_runV (As := []) (rest := []) ⟨hx, hb, hml, hown, hts⟩ (mX1_goToStart l dC dI cIc od oc oac H.size st sib lf tr u_6) (cwV 0 hts (gV wd191 wd192 wd193 wd29 wd194) rfl rfl rfl (by decide +kernel) ⟨Nat.le_of_ble_eq_true rfl, Nat.le_of_ble_eq_true rfl⟩) ⟨fb_rw, va_recv hKc hPc (ci := 1) (q0 := 0) rfl rfl, pre_rw hPc hKc hDc hZ⟩ rfl rfl hl.1 rfl (lv_room (Nat.le_of_ble_eq_true rfl)) dX2_clear_25 ⟨Nat.le_of_ble_eq_true rfl, Nat.le_of_ble_eq_true rfl⟩) hS (fun q _ h => hFc q h) hFc (fun u_8 t H1 locs ht hvm hw_7 hB hz1 hk1 hS => ?_)
  obtain ⟨hP1, hD1⟩ := hB
  rw [ht] at hP1
  obtain ⟨hP, hD⟩ := va_join (wr := [(ox, .inr (2, [.int st, .int lf, .int ao, .ref ow, .ref og, .ref oc, .ref od, .int bad])), (og, .inr (1, [.ref ow, .int st, .int sib, .int u_4.1, .int u_4.2.1, .int u_4.2.2.1, .int u_4.2.2.2])), (ow, .inr (0, [.int lf, .ref oaw, .int u_2.2])), (oaw, .inl (cIw, 600, .inl u_2.1))]) (w1 := [(od, .inr (1, [.ref oc, .int st, .int sib, .int u_8.1, .int u_8.2.1, .int u_8.2.2.1, .int u_8.2.2.2])), (oc, .inr (0, [.int lf, .ref oac, .int u_6.2])), (oac, .inl (cIc, 600, .inl u_6.1))]) hP hD [1, 5, 6] [0, 2, 3, 4] rfl rfl (by decide) (by decide) hk1 hFc hP1 hD1
  generalize H1 = H at hP hS ⊢
  have hP : va_P (dC, dI) vwCl [(ox, .inr (2, [.int st, .int lf, .int ao, .ref ow, .ref og, .ref oc, .ref od, .int bad])), (og, .inr (1, [.ref ow, .int st, .int sib, .int u_4.1, .int u_4.2.1, .int u_4.2.2.1, .int u_4.2.2.2])), (ow, .inr (0, [.int lf, .ref oaw, .int u_2.2])), (oaw, .inl (cIw, 600, .inl u_2.1)), (od, .inr (1, [.ref oc, .int st, .int sib, .int u_8.1, .int u_8.2.1, .int u_8.2.2.1, .int u_8.2.2.2])), (oc, .inr (0, [.int lf, .ref oac, .int u_6.2])), (oac, .inl (cIc, 600, .inl u_6.1))] H := hP
  have hD : va_D A [(ox, .inr (2, [.int st, .int lf, .int ao, .ref ow, .ref og, .ref oc, .ref od, .int bad])), (og, .inr (1, [.ref ow, .int st, .int sib, .int u_4.1, .int u_4.2.1, .int u_4.2.2.1, .int u_4.2.2.2])), (ow, .inr (0, [.int lf, .ref oaw, .int u_2.2])), (oaw, .inl (cIw, 600, .inl u_2.1)), (od, .inr (1, [.ref oc, .int st, .int sib, .int u_8.1, .int u_8.2.1, .int u_8.2.2.1, .int u_8.2.2.2])), (oc, .inr (0, [.int lf, .ref oac, .int u_6.2])), (oac, .inl (cIc, 600, .inl u_6.1))] := hD
  refine lv_aload_n hx hb dX2_clear_28 rfl (lv_at hl 0 rfl) ?_
  refine lv_iconst (v := 0) hx hb dX2_clear_29 (by decide) ?_
  refine va_put (D := (dC, dI)) (ci := 2) (v := .int 0) (ty := .boolean) (C := RX2) (T := TX2) (N := 8) hx hb hts inGX2 tyX2 tyX2_ok nmX2 hown hK hP hD hS 0 rfl rfl 7 (by decide) (hts _ wd105) (fun _ h9 => h9) rfl (by decide +kernel) rfl rfl (Nat.le_of_ble_eq_true rfl) dX2_clear_30 (fun H locs hP hD hS => ?_)
  have hP : va_P (dC, dI) vwCl [(ox, .inr (2, [.int st, .int lf, .int ao, .ref ow, .ref og, .ref oc, .ref od, .int 0])), (og, .inr (1, [.ref ow, .int st, .int sib, .int u_4.1, .int u_4.2.1, .int u_4.2.2.1, .int u_4.2.2.2])), (ow, .inr (0, [.int lf, .ref oaw, .int u_2.2])), (oaw, .inl (cIw, 600, .inl u_2.1)), (od, .inr (1, [.ref oc, .int st, .int sib, .int u_8.1, .int u_8.2.1, .int u_8.2.2.1, .int u_8.2.2.2])), (oc, .inr (0, [.int lf, .ref oac, .int u_6.2])), (oac, .inl (cIc, 600, .inl u_6.1))] H := hP
  have hD : va_D A [(ox, .inr (2, [.int st, .int lf, .int ao, .ref ow, .ref og, .ref oc, .ref od, .int 0])), (og, .inr (1, [.ref ow, .int st, .int sib, .int u_4.1, .int u_4.2.1, .int u_4.2.2.1, .int u_4.2.2.2])), (ow, .inr (0, [.int lf, .ref oaw, .int u_2.2])), (oaw, .inl (cIw, 600, .inl u_2.1)), (od, .inr (1, [.ref oc, .int st, .int sib, .int u_8.1, .int u_8.2.1, .int u_8.2.2.1, .int u_8.2.2.2])), (oc, .inr (0, [.int lf, .ref oac, .int u_6.2])), (oac, .inl (cIc, 600, .inl u_6.1))] := hD
  have hP9 := hP.sub (ws' := [(ox, .inr (2, [.int st, .int lf, .int ao, .ref ow, .ref og, .ref oc, .ref od, .int 0])), (ow, .inr (0, [.int lf, .ref oaw, .int u_2.2])), (oaw, .inl (cIw, 600, .inl u_2.1)), (og, .inr (1, [.ref ow, .int st, .int sib, .int u_4.1, .int u_4.2.1, .int u_4.2.2.1, .int u_4.2.2.2])), (oc, .inr (0, [.int lf, .ref oac, .int u_6.2])), (oac, .inl (cIc, 600, .inl u_6.1)), (od, .inr (1, [.ref oc, .int st, .int sib, .int u_8.1, .int u_8.2.1, .int u_8.2.2.1, .int u_8.2.2.2]))]) [0, 2, 3, 1, 5, 6, 4] rfl
  have hD9 := hD.sub (ws' := [(ox, .inr (2, [.int st, .int lf, .int ao, .ref ow, .ref og, .ref oc, .ref od, .int 0])), (ow, .inr (0, [.int lf, .ref oaw, .int u_2.2])), (oaw, .inl (cIw, 600, .inl u_2.1)), (og, .inr (1, [.ref ow, .int st, .int sib, .int u_4.1, .int u_4.2.1, .int u_4.2.2.1, .int u_4.2.2.2])), (oc, .inr (0, [.int lf, .ref oac, .int u_6.2])), (oac, .inl (cIc, 600, .inl u_6.1)), (od, .inr (1, [.ref oc, .int st, .int sib, .int u_8.1, .int u_8.2.1, .int u_8.2.2.1, .int u_8.2.2.2]))]) [0, 2, 3, 1, 5, 6, 4] (by decide) rfl
  exact W.vret hx hb hr (fun t ht hW => ⟨⟨(u_2, u_4, u_6, u_8, 0), rfl, (plX2_clear_0 st lf ao sib wr tw cr tr bad _ hw_1 _ hw_3 _ hw_5 _ hw_7), by rw [ht]; exact hP9, hD9⟩, hS.F ht⟩) hS.2.2 dX2_clear_33
