def LX2_patch_54 (st : Int32) (lf : Int32) (ao : Int32) (sib : Int32) : Nat → Rw → Tk → Rw → Tk → Int32 → Int32 → Int32 → Int32 → Int32 → Int32 → String ⊕ (Int32 × Rw)
  | 0, wr, tw, cr, tr, bad, p0, p1, p2, bf, i => Sum.inr (0, wr)
  | n + 1, wr, tw, cr, tr, bad, p0, p1, p2, bf, i =>
    if p1 ≤ i then
      Sum.inr (bf, wr)
    else
      let r_1 := FX2_shiftOf st lf ao sib wr tw cr tr bad i p1
      let r_3 := FX0_bitOf lf wr (p0 + i)
      let x_5 := bf ||| (r_3 <<< (r_1 &&& 31))
      let u_7 := FX0_setBit lf wr (p0 + i) (((p2.toUInt32 >>> (r_1.toUInt32 &&& Int32.toUInt32 31)).toInt32) &&& 1)
      let i_8 := i + 1
      LX2_patch_54 st lf ao sib n u_7 tw cr tr bad p0 p1 p2 x_5 i_8
def FX2_patch (st : Int32) (lf : Int32) (ao : Int32) (sib : Int32) (wr : Rw) (tw : Tk) (cr : Rw) (tr : Tk) (bad : Int32) (p0 : Int32) (p1 : Int32) (p2 : Int32) : String ⊕ (Int32 × Rw) :=
  if st = 0 then
    xbind (FX2_refuseOtherWidths p1) (fun zhw_1 =>
      if p0 < 0 then
        Sum.inl "java/lang/IndexOutOfBoundsException"
      else
        if p0 ≤ (tw.1 - p1) then
          LX2_patch_54 st lf ao sib (fz 0 p1) wr tw cr tr bad p0 p1 p2 0 0
        else
          Sum.inl "java/lang/IndexOutOfBoundsException")
  else
    Sum.inl "java/lang/IllegalStateException"
set_option maxRecDepth 100000 in
theorem plX2_patch_l54_0 (st : Int32) (lf : Int32) (ao : Int32) (sib : Int32) (n : Nat) (wr : Rw) (tw : Tk) (cr : Rw) (tr : Tk) (bad : Int32) (p0 : Int32) (p1 : Int32) (p2 : Int32) (bf : Int32) (i : Int32) (c_57 : p1 ≤ i) : Sum.inr (bf, wr) = LX2_patch_54 st lf ao sib (n + 1) wr tw cr tr bad p0 p1 p2 bf i := by
  exact (if_pos c_57).symm
set_option maxRecDepth 100000 in
theorem plX2_patch_l54_1 (st : Int32) (lf : Int32) (ao : Int32) (sib : Int32) (n : Nat) (wr : Rw) (tw : Tk) (cr : Rw) (tr : Tk) (bad : Int32) (p0 : Int32) (p1 : Int32) (p2 : Int32) (bf : Int32) (i : Int32) (c_57 : ¬ (p1 ≤ i)) (r_1 : Int32) (hw_2 : r_1 = FX2_shiftOf st lf ao sib wr tw cr tr bad i p1) (r_3 : Int32) (hw_4 : r_3 = FX0_bitOf lf wr (p0 + i)) (x_5 : Int32) (ex_5 : x_5 = bf ||| (r_3 <<< (r_1 &&& 31))) (u_7 : Rw) (hw_6 : u_7 = FX0_setBit lf wr (p0 + i) (((p2.toUInt32 >>> (r_1.toUInt32 &&& Int32.toUInt32 31)).toInt32) &&& 1)) (i_8 : Int32) (ei_8 : i_8 = i + 1) : LX2_patch_54 st lf ao sib n u_7 tw cr tr bad p0 p1 p2 x_5 i_8 = LX2_patch_54 st lf ao sib (n + 1) wr tw cr tr bad p0 p1 p2 bf i := by
  subst hw_2
  subst hw_4
  subst ex_5
  subst hw_6
  subst ei_8
  exact (if_neg c_57).symm
set_option maxRecDepth 100000 in
theorem plX2_patch_0 (st : Int32) (lf : Int32) (ao : Int32) (sib : Int32) (wr : Rw) (tw : Tk) (cr : Rw) (tr : Tk) (bad : Int32) (p0 : Int32) (p1 : Int32) (p2 : Int32) (c_4 : st = 0) (E_3 : String) (hw_1 : Sum.inl E_3 = FX2_refuseOtherWidths p1) : Sum.inl E_3 = FX2_patch st lf ao sib wr tw cr tr bad p0 p1 p2 := by
  refine Eq.symm ?_
  refine (if_pos c_4).trans ?_
  refine (xb_inl hw_1).trans ?_
  exact rfl
set_option maxRecDepth 100000 in
theorem plX2_patch_1 (st : Int32) (lf : Int32) (ao : Int32) (sib : Int32) (wr : Rw) (tw : Tk) (cr : Rw) (tr : Tk) (bad : Int32) (p0 : Int32) (p1 : Int32) (p2 : Int32) (c_4 : st = 0) (hw_1 : Sum.inr () = FX2_refuseOtherWidths p1) (c_22 : p0 < 0) : Sum.inl "java/lang/IndexOutOfBoundsException" = FX2_patch st lf ao sib wr tw cr tr bad p0 p1 p2 := by
  refine Eq.symm ?_
  refine (if_pos c_4).trans ?_
  refine (xb_inr hw_1).trans ?_
  refine (if_pos c_22).trans ?_
  exact rfl
set_option maxRecDepth 100000 in
theorem plX2_patch_2 (st : Int32) (lf : Int32) (ao : Int32) (sib : Int32) (wr : Rw) (tw : Tk) (cr : Rw) (tr : Tk) (bad : Int32) (p0 : Int32) (p1 : Int32) (p2 : Int32) (c_4 : st = 0) (hw_1 : Sum.inr () = FX2_refuseOtherWidths p1) (c_22 : ¬ (p0 < 0)) (c_35 : p0 ≤ (tw.1 - p1)) : LX2_patch_54 st lf ao sib (fz 0 p1) wr tw cr tr bad p0 p1 p2 0 0 = FX2_patch st lf ao sib wr tw cr tr bad p0 p1 p2 := by
  refine Eq.symm ?_
  refine (if_pos c_4).trans ?_
  refine (xb_inr hw_1).trans ?_
  refine (if_neg c_22).trans ?_
  refine (if_pos c_35).trans ?_
  exact rfl
set_option maxRecDepth 100000 in
theorem plX2_patch_3 (st : Int32) (lf : Int32) (ao : Int32) (sib : Int32) (wr : Rw) (tw : Tk) (cr : Rw) (tr : Tk) (bad : Int32) (p0 : Int32) (p1 : Int32) (p2 : Int32) (c_4 : st = 0) (hw_1 : Sum.inr () = FX2_refuseOtherWidths p1) (c_22 : ¬ (p0 < 0)) (c_35 : ¬ (p0 ≤ (tw.1 - p1))) : Sum.inl "java/lang/IndexOutOfBoundsException" = FX2_patch st lf ao sib wr tw cr tr bad p0 p1 p2 := by
  refine Eq.symm ?_
  refine (if_pos c_4).trans ?_
  refine (xb_inr hw_1).trans ?_
  refine (if_neg c_22).trans ?_
  refine (if_neg c_35).trans ?_
  exact rfl
set_option maxRecDepth 100000 in
theorem plX2_patch_4 (st : Int32) (lf : Int32) (ao : Int32) (sib : Int32) (wr : Rw) (tw : Tk) (cr : Rw) (tr : Tk) (bad : Int32) (p0 : Int32) (p1 : Int32) (p2 : Int32) (c_4 : ¬ (st = 0)) : Sum.inl "java/lang/IllegalStateException" = FX2_patch st lf ao sib wr tw cr tr bad p0 p1 p2 := by
  exact (if_neg c_4).symm
set_option maxHeartbeats 4000000 in
set_option maxRecDepth 100000 in
theorem kX2_patch_54 {p : Program} {l : Launch} {e : Env} {s : State} {m : MethodId} {args : Array Value} {below : List Frame} {meth : Method} {c : Code} {dC : Nat → ClassId} {dI : Nat → Nat → Nat} {cIw cIc : ClassId} {ox ow oaw og oc oac od : Nat} {st : Int32} {lf : Int32} {ao : Int32} {sib : Int32} {XC : String → State → State → Prop} {z : String ⊕ (Int32 × Rw)} {A : Nat → Prop} (hx : p.tables.exec = Jvm.exec) (hb : c.code = cX2_patch) (hr : meth.sig.returnType = (some .int)) (hml : c.maxLocals = 7) (hown : s.vm.findClass RX2 = some m.cls) (hts : ∀ w ∈ G, w.before args s = true) (hlocks : meth.locks = false) (hA : ∀ q : Nat, s.heap.size ≤ q → A q) (hZ : zOk s) (hK : va_K (dC, dI) vwCl [(cIw, .int), (cIc, .int)] s) : ∀ (n : Nat) (wr : Rw) (tw : Tk) (cr : Rw) (tr : Tk) (bad : Int32) (p0 : Int32) (p1 : Int32) (p2 : Int32) (bf : Int32) (i : Int32), (fuel n i p1) → LX2_patch_54 st lf ao sib n wr tw cr tr bad p0 p1 p2 bf i = z → ∀ (H : Heap) (locs : List Loc), va_P (dC, dI) vwCl [(ox, .inr (2, [.int st, .int lf, .int ao, .ref ow, .ref og, .ref oc, .ref od, .int bad])), (ow, .inr (0, [.int lf, .ref oaw, .int wr.2])), (oaw, .inl (cIw, 600, .inl wr.1)), (og, .inr (1, [.ref ow, .int st, .int sib, .int tw.1, .int tw.2.1, .int tw.2.2.1, .int tw.2.2.2])), (oc, .inr (0, [.int lf, .ref oac, .int cr.2])), (oac, .inl (cIc, 600, .inl cr.1)), (od, .inr (1, [.ref oc, .int st, .int sib, .int tr.1, .int tr.2.1, .int tr.2.2.1, .int tr.2.2.2]))] H → va_D A [(ox, .inr (2, [.int st, .int lf, .int ao, .ref ow, .ref og, .ref oc, .ref od, .int bad])), (ow, .inr (0, [.int lf, .ref oaw, .int wr.2])), (oaw, .inl (cIw, 600, .inl wr.1)), (og, .inr (1, [.ref ow, .int st, .int sib, .int tw.1, .int tw.2.1, .int tw.2.2.1, .int tw.2.2.2])), (oc, .inr (0, [.int lf, .ref oac, .int cr.2])), (oac, .inl (cIc, 600, .inl cr.1)), (od, .inr (1, [.ref oc, .int st, .int sib, .int tr.1, .int tr.2.1, .int tr.2.2.1, .int tr.2.2.2]))] → va_S A s.heap H locs → ∀ (ls : Array Slot), lv_has ls 7 [(0, .ref ox), (1, .int p0), (2, .int p1), (3, .int p2), (4, .int bf), (5, .int i)] → W p l e (headSpec (Cond.code yX2_patch cX2_patch 7 (some .int) :: G) ({ frames := 7, cells := 2, slots := 12, locals := 102 } : Room)).room s m args below meth c H locs 1 6 (vx_MQ below (va_Qi (fun (r : Int32) (u : Rw) => Sum.inr (r, u) = z) (fun (u : Rw) (t : State) => va_P (dC, dI) vwCl [(ox, .inr (2, [.int st, .int lf, .int ao, .ref ow, .ref og, .ref oc, .ref od, .int bad])), (ow, .inr (0, [.int lf, .ref oaw, .int u.2])), (oaw, .inl (cIw, 600, .inl u.1)), (og, .inr (1, [.ref ow, .int st, .int sib, .int tw.1, .int tw.2.1, .int tw.2.2.1, .int tw.2.2.2])), (oc, .inr (0, [.int lf, .ref oac, .int cr.2])), (oac, .inl (cIc, 600, .inl cr.1)), (od, .inr (1, [.ref oc, .int st, .int sib, .int tr.1, .int tr.2.1, .int tr.2.2.1, .int tr.2.2.2]))] t.heap ∧ va_D A [(ox, .inr (2, [.int st, .int lf, .int ao, .ref ow, .ref og, .ref oc, .ref od, .int bad])), (ow, .inr (0, [.int lf, .ref oaw, .int u.2])), (oaw, .inl (cIw, 600, .inl u.1)), (og, .inr (1, [.ref ow, .int st, .int sib, .int tw.1, .int tw.2.1, .int tw.2.2.1, .int tw.2.2.2])), (oc, .inr (0, [.int lf, .ref oac, .int cr.2])), (oac, .inl (cIc, 600, .inl cr.1)), (od, .inr (1, [.ref oc, .int st, .int sib, .int tr.1, .int tr.2.1, .int tr.2.2.1, .int tr.2.2.2]))]) A) XC args s 2 12 A) (F0 m 54 ls []) := by
  intro n
  induction n with
  | zero =>
    intro wr tw cr tr bad p0 p1 p2 bf i hf hz
    exact absurd hf.1 (Nat.lt_irrefl 0)
  | succ n ih =>
    intro wr tw cr tr bad p0 p1 p2 bf i hf hz H locs hP hD hS ls hl
    refine lv_iload hx hb dX2_patch_54 (lv_at hl 5 rfl) ?_
    refine lv_iload_n hx hb dX2_patch_56 rfl (lv_at hl 2 rfl) ?_
    refine lv_icmp_ge (tgt := 111) hx hb dX2_patch_57 (by decide) (fun c_57 => ?_) (fun c_57 => ?_)
    · refine lv_iload hx hb dX2_patch_111 (lv_at hl 4 rfl) ?_
      have hP9 := hP.sub (ws' := [(ox, .inr (2, [.int st, .int lf, .int ao, .ref ow, .ref og, .ref oc, .ref od, .int bad])), (ow, .inr (0, [.int lf, .ref oaw, .int wr.2])), (oaw, .inl (cIw, 600, .inl wr.1)), (og, .inr (1, [.ref ow, .int st, .int sib, .int tw.1, .int tw.2.1, .int tw.2.2.1, .int tw.2.2.2])), (oc, .inr (0, [.int lf, .ref oac, .int cr.2])), (oac, .inl (cIc, 600, .inl cr.1)), (od, .inr (1, [.ref oc, .int st, .int sib, .int tr.1, .int tr.2.1, .int tr.2.2.1, .int tr.2.2.2]))]) [0, 1, 2, 3, 4, 5, 6] rfl
      have hD9 := hD.sub (ws' := [(ox, .inr (2, [.int st, .int lf, .int ao, .ref ow, .ref og, .ref oc, .ref od, .int bad])), (ow, .inr (0, [.int lf, .ref oaw, .int wr.2])), (oaw, .inl (cIw, 600, .inl wr.1)), (og, .inr (1, [.ref ow, .int st, .int sib, .int tw.1, .int tw.2.1, .int tw.2.2.1, .int tw.2.2.2])), (oc, .inr (0, [.int lf, .ref oac, .int cr.2])), (oac, .inl (cIc, 600, .inl cr.1)), (od, .inr (1, [.ref oc, .int st, .int sib, .int tr.1, .int tr.2.1, .int tr.2.2.1, .int tr.2.2.2]))]) [0, 1, 2, 3, 4, 5, 6] (by decide) rfl
      refine vx_ret ?_
      refine W.widen (k := 2) (n := 12) (by omega) (by omega) ?_
      exact W.iret (v := bf) hx hb hr (fun t ht hW => ⟨⟨bf, wr, rfl, ((plX2_patch_l54_0 st lf ao sib n wr tw cr tr bad p0 p1 p2 bf i c_57).trans hz), by rw [ht]; exact hP9, hD9⟩, hS.F ht⟩) hS.2.2 dX2_patch_113
    · refine lv_aload_n hx hb dX2_patch_60 rfl (lv_at hl 0 rfl) ?_
      refine lv_iload hx hb dX2_patch_61 (lv_at hl 5 rfl) ?_
      refine lv_iload_n hx hb dX2_patch_63 rfl (lv_at hl 2 rfl) ?_
      have hPc := hP.sub (ws' := [(ox, .inr (2, [.int st, .int lf, .int ao, .ref ow, .ref og, .ref oc, .ref od, .int bad])), (ow, .inr (0, [.int lf, .ref oaw, .int wr.2])), (oaw, .inl (cIw, 600, .inl wr.1)), (og, .inr (1, [.ref ow, .int st, .int sib, .int tw.1, .int tw.2.1, .int tw.2.2.1, .int tw.2.2.2])), (oc, .inr (0, [.int lf, .ref oac, .int cr.2])), (oac, .inl (cIc, 600, .inl cr.1)), (od, .inr (1, [.ref oc, .int st, .int sib, .int tr.1, .int tr.2.1, .int tr.2.2.1, .int tr.2.2.2]))]) [0, 1, 2, 3, 4, 5, 6] rfl
      have hKc := hK.sub (tys' := [(cIw, .int), (cIc, .int)]) [0, 1] rfl
      refine vp_callSi (va_Run.run (va_runV (As := [.int i, .int p1]) (rest := []) ⟨hx, hb, hml, hown, hts⟩ (mX2_shiftOf l dC dI cIw cIc ox ow oaw og oc oac od st lf ao sib wr tw cr tr bad i p1) (cwV 2 hts (gV wd296 wd297 wd4 wd26 wd298) rfl rfl rfl (by decide +kernel) ⟨Nat.le_of_ble_eq_true rfl, Nat.le_of_ble_eq_true rfl⟩) ⟨fb_ro, va_recv hKc hPc (ci := 2) (q0 := 0) rfl rfl, pre_ro hPc hKc hZ⟩ rfl rfl hl.1 rfl (lv_room (Nat.le_of_ble_eq_true rfl)) dX2_patch_64 ⟨Nat.le_of_ble_eq_true rfl, Nat.le_of_ble_eq_true rfl⟩)) (fun r_1 hw_2 => ?_)
      refine lv_istore (lv' := [(6, .int r_1), (0, .ref ox), (1, .int p0), (2, .int p1), (3, .int p2), (4, .int bf), (5, .int i)]) hx hb dX2_patch_67 hl (by decide) rfl (fun ls hl => ?_)
      refine lv_iload hx hb dX2_patch_69 (lv_at hl 5 rfl) ?_
      refine lv_aload_n hx hb dX2_patch_71 rfl (lv_at hl 1 rfl) ?_
      refine va_get (D := (dC, dI)) (ci := 2) (v := .ref ow) (C := RX2) (T := TX2) (N := 8) hx hb hts inGX2 hown hK hP 0 rfl rfl 3 (by decide) (hts _ wd101) (fun _ h9 => h9) rfl dX2_patch_72 ?_
      refine lv_iload_n hx hb dX2_patch_75 rfl (lv_at hl 2 rfl) ?_
      refine lv_iload hx hb dX2_patch_76 (lv_at hl 6 rfl) ?_
      refine lv_iadd hx hb dX2_patch_78 ?_
      have hPc := hP.sub (ws' := [(ow, .inr (0, [.int lf, .ref oaw, .int wr.2])), (oaw, .inl (cIw, 600, .inl wr.1))]) [1, 2] rfl
      have hKc := hK.sub (tys' := [(cIw, .int)]) [0] rfl
      refine vp_callSi (va_Run.run (va_runV (As := [.int (p0 + i)]) (rest := [.int bf]) ⟨hx, hb, hml, hown, hts⟩ (mX0_bitOf l dC dI cIw ow oaw lf wr (p0 + i)) (cwV 1 hts (gV wd150 wd151 wd152 wd28 wd153) rfl rfl rfl (by decide +kernel) ⟨Nat.le_of_ble_eq_true rfl, Nat.le_of_ble_eq_true rfl⟩) ⟨fb_ro, va_recv hKc hPc (ci := 0) (q0 := 0) rfl rfl, pre_ro hPc hKc hZ⟩ rfl rfl hl.1 rfl (lv_room (Nat.le_of_ble_eq_true rfl)) dX2_patch_79 ⟨Nat.le_of_ble_eq_true rfl, Nat.le_of_ble_eq_true rfl⟩)) (fun r_3 hw_4 => ?_)
      refine lv_iload hx hb dX2_patch_82 (lv_at hl 0 rfl) ?_
      refine lv_ishl hx hb dX2_patch_84 ?_
      refine lv_ior hx hb dX2_patch_85 ?_
      refine lv_topi (fun x_5 ex_5 => ?_)
      refine lv_istore (lv' := [(4, .int x_5), (6, .int r_1), (0, .ref ox), (1, .int p0), (2, .int p1), (3, .int p2), (5, .int i)]) hx hb dX2_patch_86 hl (by decide) rfl (fun ls hl => ?_)
      refine lv_aload_n hx hb dX2_patch_88 rfl (lv_at hl 2 rfl) ?_
      refine va_get (D := (dC, dI)) (ci := 2) (v := .ref ow) (C := RX2) (T := TX2) (N := 8) hx hb hts inGX2 hown hK hP 0 rfl rfl 3 (by decide) (hts _ wd101) (fun _ h9 => h9) rfl dX2_patch_89 ?_
      refine lv_iload_n hx hb dX2_patch_92 rfl (lv_at hl 3 rfl) ?_
      refine lv_iload hx hb dX2_patch_93 (lv_at hl 6 rfl) ?_
      refine lv_iadd hx hb dX2_patch_95 ?_
      refine lv_iload_n hx hb dX2_patch_96 rfl (lv_at hl 5 rfl) ?_
      refine lv_iload hx hb dX2_patch_97 (lv_at hl 1 rfl) ?_
      refine lv_iushr (v := (p2.toUInt32 >>> (r_1.toUInt32 &&& Int32.toUInt32 31)).toInt32) hx hb dX2_patch_99 rfl ?_
      refine lv_iconst (v := 1) hx hb dX2_patch_100 (by decide) ?_
      refine lv_iand hx hb dX2_patch_101 ?_
      have hPc := hP.sub (ws' := [(ow, .inr (0, [.int lf, .ref oaw, .int wr.2])), (oaw, .inl (cIw, 600, .inl wr.1))]) [1, 2] rfl
      have hKc := hK.sub (tys' := [(cIw, .int)]) [0] rfl
      have hDc := hD.sub (ws' := [(ow, .inr (0, [.int lf, .ref oaw, .int wr.2])), (oaw, .inl (cIw, 600, .inl wr.1))]) [1, 2] (by decide) rfl
      have hFc := va_free (wc := [(ow, .inr (0, [.int lf, .ref oaw, .int wr.2])), (oaw, .inl (cIw, 600, .inl wr.1))]) hD hS hA [1, 2] rfl
      refine va_callv (va_runV (As := [.int (p0 + i), .int (((p2.toUInt32 >>> (r_1.toUInt32 &&& Int32.toUInt32 31)).toInt32) &&& 1)]) (rest := []) ⟨hx, hb, hml, hown, hts⟩ (mX0_setBit l dC dI cIw ow oaw H.size lf wr (p0 + i) (((p2.toUInt32 >>> (r_1.toUInt32 &&& Int32.toUInt32 31)).toInt32) &&& 1)) (cwV 2 hts (gV wd291 wd292 wd293 wd28 wd294) rfl rfl rfl (by decide +kernel) ⟨Nat.le_of_ble_eq_true rfl, Nat.le_of_ble_eq_true rfl⟩) ⟨fb_rw, va_recv hKc hPc (ci := 0) (q0 := 0) rfl rfl, pre_rw hPc hKc hDc hZ⟩ rfl rfl hl.1 rfl (lv_room (Nat.le_of_ble_eq_true rfl)) dX2_patch_102 ⟨Nat.le_of_ble_eq_true rfl, Nat.le_of_ble_eq_true rfl⟩) hS (fun q _ h => hFc q h) hFc (fun u_7 t H1 locs ht hvm hw_6 hB hz1 hk1 hS => ?_)
      obtain ⟨hP1, hD1⟩ := hB
      rw [ht] at hP1
      obtain ⟨hP, hD⟩ := va_join (wr := [(ox, .inr (2, [.int st, .int lf, .int ao, .ref ow, .ref og, .ref oc, .ref od, .int bad])), (og, .inr (1, [.ref ow, .int st, .int sib, .int tw.1, .int tw.2.1, .int tw.2.2.1, .int tw.2.2.2])), (oc, .inr (0, [.int lf, .ref oac, .int cr.2])), (oac, .inl (cIc, 600, .inl cr.1)), (od, .inr (1, [.ref oc, .int st, .int sib, .int tr.1, .int tr.2.1, .int tr.2.2.1, .int tr.2.2.2]))]) (w1 := [(ow, .inr (0, [.int lf, .ref oaw, .int u_7.2])), (oaw, .inl (cIw, 600, .inl u_7.1))]) hP hD [1, 2] [0, 3, 4, 5, 6] rfl rfl (by decide) (by decide) hk1 hFc hP1 hD1
      generalize H1 = H at hP hS ⊢
      have hP : va_P (dC, dI) vwCl [(ox, .inr (2, [.int st, .int lf, .int ao, .ref ow, .ref og, .ref oc, .ref od, .int bad])), (og, .inr (1, [.ref ow, .int st, .int sib, .int tw.1, .int tw.2.1, .int tw.2.2.1, .int tw.2.2.2])), (oc, .inr (0, [.int lf, .ref oac, .int cr.2])), (oac, .inl (cIc, 600, .inl cr.1)), (od, .inr (1, [.ref oc, .int st, .int sib, .int tr.1, .int tr.2.1, .int tr.2.2.1, .int tr.2.2.2])), (ow, .inr (0, [.int lf, .ref oaw, .int u_7.2])), (oaw, .inl (cIw, 600, .inl u_7.1))] H := hP
      have hD : va_D A [(ox, .inr (2, [.int st, .int lf, .int ao, .ref ow, .ref og, .ref oc, .ref od, .int bad])), (og, .inr (1, [.ref ow, .int st, .int sib, .int tw.1, .int tw.2.1, .int tw.2.2.1, .int tw.2.2.2])), (oc, .inr (0, [.int lf, .ref oac, .int cr.2])), (oac, .inl (cIc, 600, .inl cr.1)), (od, .inr (1, [.ref oc, .int st, .int sib, .int tr.1, .int tr.2.1, .int tr.2.2.1, .int tr.2.2.2])), (ow, .inr (0, [.int lf, .ref oaw, .int u_7.2])), (oaw, .inl (cIw, 600, .inl u_7.1))] := hD
      obtain ⟨i_8, ei_8⟩ : ∃ y : Int32, y = i + 1 := ⟨_, rfl⟩
      refine lv_iinc (v := i_8) (lv' := [(5, .int i_8), (4, .int x_5), (6, .int r_1), (0, .ref ox), (1, .int p0), (2, .int p1), (3, .int p2)]) hx hb dX2_patch_105 hl (k := 6) rfl (by rw [ei_8]; rfl) (by decide) rfl (fun ls hl => ?_)
      refine lv_goto (tgt := 54) hx hb dX2_patch_108 (by decide) ?_
      exact ih u_7 tw cr tr bad p0 p1 p2 x_5 i_8 (fuel_step2 hf (nle_lt c_57) (by assumption)) ((plX2_patch_l54_1 st lf ao sib n wr tw cr tr bad p0 p1 p2 bf i c_57 _ hw_2 _ hw_4 _ ex_5 _ hw_6 _ ei_8).trans hz) _ _ (hP.sub (ws' := [(ox, .inr (2, [.int st, .int lf, .int ao, .ref ow, .ref og, .ref oc, .ref od, .int bad])), (ow, .inr (0, [.int lf, .ref oaw, .int u_7.2])), (oaw, .inl (cIw, 600, .inl u_7.1)), (og, .inr (1, [.ref ow, .int st, .int sib, .int tw.1, .int tw.2.1, .int tw.2.2.1, .int tw.2.2.2])), (oc, .inr (0, [.int lf, .ref oac, .int cr.2])), (oac, .inl (cIc, 600, .inl cr.1)), (od, .inr (1, [.ref oc, .int st, .int sib, .int tr.1, .int tr.2.1, .int tr.2.2.1, .int tr.2.2.2]))]) [0, 5, 6, 1, 2, 3, 4] rfl) (hD.sub (ws' := [(ox, .inr (2, [.int st, .int lf, .int ao, .ref ow, .ref og, .ref oc, .ref od, .int bad])), (ow, .inr (0, [.int lf, .ref oaw, .int u_7.2])), (oaw, .inl (cIw, 600, .inl u_7.1)), (og, .inr (1, [.ref ow, .int st, .int sib, .int tw.1, .int tw.2.1, .int tw.2.2.1, .int tw.2.2.2])), (oc, .inr (0, [.int lf, .ref oac, .int cr.2])), (oac, .inl (cIc, 600, .inl cr.1)), (od, .inr (1, [.ref oc, .int st, .int sib, .int tr.1, .int tr.2.1, .int tr.2.2.1, .int tr.2.2.2]))]) [0, 5, 6, 1, 2, 3, 4] (by decide) rfl) hS ls (lv_sub hl [3, 4, 5, 6, 1, 0] rfl)
set_option maxHeartbeats 4000000 in
set_option maxRecDepth 100000 in
theorem mX2_patch (l : Launch) (hlt : l.stackTraces = false) (dC : Nat → ClassId) (dI : Nat → Nat → Nat) (cIw cIc : ClassId) (ox ow oaw og oc oac od : Nat) (sz : Nat) (st : Int32) (lf : Int32) (ao : Int32) (sib : Int32) (wr : Rw) (tw : Tk) (cr : Rw) (tr : Tk) (bad : Int32) (p0 : Int32) (p1 : Int32) (p2 : Int32) : vx_Met l yX2_patch (Cond.code yX2_patch cX2_patch 7 (some .int) :: G) ({ frames := 7, cells := 2, slots := 12, locals := 102 } : Room) (va_Pc [.ref ox, .int p0, .int p1, .int p2] (fun U => U.heap.size = sz ∧ va_P (dC, dI) vwCl [(ox, .inr (2, [.int st, .int lf, .int ao, .ref ow, .ref og, .ref oc, .ref od, .int bad])), (ow, .inr (0, [.int lf, .ref oaw, .int wr.2])), (oaw, .inl (cIw, 600, .inl wr.1)), (og, .inr (1, [.ref ow, .int st, .int sib, .int tw.1, .int tw.2.1, .int tw.2.2.1, .int tw.2.2.2])), (oc, .inr (0, [.int lf, .ref oac, .int cr.2])), (oac, .inl (cIc, 600, .inl cr.1)), (od, .inr (1, [.ref oc, .int st, .int sib, .int tr.1, .int tr.2.1, .int tr.2.2.1, .int tr.2.2.2]))] U.heap ∧ va_K (dC, dI) vwCl [(cIw, .int), (cIc, .int)] U ∧ va_D (fun _ => True) [(ox, .inr (2, [.int st, .int lf, .int ao, .ref ow, .ref og, .ref oc, .ref od, .int bad])), (ow, .inr (0, [.int lf, .ref oaw, .int wr.2])), (oaw, .inl (cIw, 600, .inl wr.1)), (og, .inr (1, [.ref ow, .int st, .int sib, .int tw.1, .int tw.2.1, .int tw.2.2.1, .int tw.2.2.2])), (oc, .inr (0, [.int lf, .ref oac, .int cr.2])), (oac, .inl (cIc, 600, .inl cr.1)), (od, .inr (1, [.ref oc, .int st, .int sib, .int tr.1, .int tr.2.1, .int tr.2.2.1, .int tr.2.2.2]))] ∧ zOk U ∧ zSt (va_A [(ox, .inr (2, [.int st, .int lf, .int ao, .ref ow, .ref og, .ref oc, .ref od, .int bad])), (ow, .inr (0, [.int lf, .ref oaw, .int wr.2])), (oaw, .inl (cIw, 600, .inl wr.1)), (og, .inr (1, [.ref ow, .int st, .int sib, .int tw.1, .int tw.2.1, .int tw.2.2.1, .int tw.2.2.2])), (oc, .inr (0, [.int lf, .ref oac, .int cr.2])), (oac, .inl (cIc, 600, .inl cr.1)), (od, .inr (1, [.ref oc, .int st, .int sib, .int tr.1, .int tr.2.1, .int tr.2.2.1, .int tr.2.2.2]))] sz) U U.heap)) (va_Qi (fun (r : Int32) (u : Rw) => Sum.inr (r, u) = (FX2_patch st lf ao sib wr tw cr tr bad p0 p1 p2)) (fun (u : Rw) (t : State) => va_P (dC, dI) vwCl [(ox, .inr (2, [.int st, .int lf, .int ao, .ref ow, .ref og, .ref oc, .ref od, .int bad])), (ow, .inr (0, [.int lf, .ref oaw, .int u.2])), (oaw, .inl (cIw, 600, .inl u.1)), (og, .inr (1, [.ref ow, .int st, .int sib, .int tw.1, .int tw.2.1, .int tw.2.2.1, .int tw.2.2.2])), (oc, .inr (0, [.int lf, .ref oac, .int cr.2])), (oac, .inl (cIc, 600, .inl cr.1)), (od, .inr (1, [.ref oc, .int st, .int sib, .int tr.1, .int tr.2.1, .int tr.2.2.1, .int tr.2.2.2]))] t.heap ∧ va_D (va_A [(ox, .inr (2, [.int st, .int lf, .int ao, .ref ow, .ref og, .ref oc, .ref od, .int bad])), (ow, .inr (0, [.int lf, .ref oaw, .int wr.2])), (oaw, .inl (cIw, 600, .inl wr.1)), (og, .inr (1, [.ref ow, .int st, .int sib, .int tw.1, .int tw.2.1, .int tw.2.2.1, .int tw.2.2.2])), (oc, .inr (0, [.int lf, .ref oac, .int cr.2])), (oac, .inl (cIc, 600, .inl cr.1)), (od, .inr (1, [.ref oc, .int st, .int sib, .int tr.1, .int tr.2.1, .int tr.2.2.1, .int tr.2.2.2]))] sz) [(ox, .inr (2, [.int st, .int lf, .int ao, .ref ow, .ref og, .ref oc, .ref od, .int bad])), (ow, .inr (0, [.int lf, .ref oaw, .int u.2])), (oaw, .inl (cIw, 600, .inl u.1)), (og, .inr (1, [.ref ow, .int st, .int sib, .int tw.1, .int tw.2.1, .int tw.2.2.1, .int tw.2.2.2])), (oc, .inr (0, [.int lf, .ref oac, .int cr.2])), (oac, .inl (cIc, 600, .inl cr.1)), (od, .inr (1, [.ref oc, .int st, .int sib, .int tr.1, .int tr.2.1, .int tr.2.2.1, .int tr.2.2.2]))]) (va_A [(ox, .inr (2, [.int st, .int lf, .int ao, .ref ow, .ref og, .ref oc, .ref od, .int bad])), (ow, .inr (0, [.int lf, .ref oaw, .int wr.2])), (oaw, .inl (cIw, 600, .inl wr.1)), (og, .inr (1, [.ref ow, .int st, .int sib, .int tw.1, .int tw.2.1, .int tw.2.2.1, .int tw.2.2.2])), (oc, .inr (0, [.int lf, .ref oac, .int cr.2])), (oac, .inl (cIc, 600, .inl cr.1)), (od, .inr (1, [.ref oc, .int st, .int sib, .int tr.1, .int tr.2.1, .int tr.2.2.1, .int tr.2.2.2]))] sz)) (vx_X (fun (_ : Unit) => True) (fun E _ t => Sum.inl E = (FX2_patch st lf ao sib wr tw cr tr bad p0 p1 p2) ∧ va_P (dC, dI) vwCl [(ox, .inr (2, [.int st, .int lf, .int ao, .ref ow, .ref og, .ref oc, .ref od, .int bad])), (ow, .inr (0, [.int lf, .ref oaw, .int wr.2])), (oaw, .inl (cIw, 600, .inl wr.1)), (og, .inr (1, [.ref ow, .int st, .int sib, .int tw.1, .int tw.2.1, .int tw.2.2.1, .int tw.2.2.2])), (oc, .inr (0, [.int lf, .ref oac, .int cr.2])), (oac, .inl (cIc, 600, .inl cr.1)), (od, .inr (1, [.ref oc, .int st, .int sib, .int tr.1, .int tr.2.1, .int tr.2.2.1, .int tr.2.2.2]))] t.heap ∧ va_D (va_A [(ox, .inr (2, [.int st, .int lf, .int ao, .ref ow, .ref og, .ref oc, .ref od, .int bad])), (ow, .inr (0, [.int lf, .ref oaw, .int wr.2])), (oaw, .inl (cIw, 600, .inl wr.1)), (og, .inr (1, [.ref ow, .int st, .int sib, .int tw.1, .int tw.2.1, .int tw.2.2.1, .int tw.2.2.2])), (oc, .inr (0, [.int lf, .ref oac, .int cr.2])), (oac, .inl (cIc, 600, .inl cr.1)), (od, .inr (1, [.ref oc, .int st, .int sib, .int tr.1, .int tr.2.1, .int tr.2.2.1, .int tr.2.2.2]))] sz) [(ox, .inr (2, [.int st, .int lf, .int ao, .ref ow, .ref og, .ref oc, .ref od, .int bad])), (ow, .inr (0, [.int lf, .ref oaw, .int wr.2])), (oaw, .inl (cIw, 600, .inl wr.1)), (og, .inr (1, [.ref ow, .int st, .int sib, .int tw.1, .int tw.2.1, .int tw.2.2.1, .int tw.2.2.2])), (oc, .inr (0, [.int lf, .ref oac, .int cr.2])), (oac, .inl (cIc, 600, .inl cr.1)), (od, .inr (1, [.ref oc, .int st, .int sib, .int tr.1, .int tr.2.1, .int tr.2.2.1, .int tr.2.2.2]))]) (va_A [(ox, .inr (2, [.int st, .int lf, .int ao, .ref ow, .ref og, .ref oc, .ref od, .int bad])), (ow, .inr (0, [.int lf, .ref oaw, .int wr.2])), (oaw, .inl (cIw, 600, .inl wr.1)), (og, .inr (1, [.ref ow, .int st, .int sib, .int tw.1, .int tw.2.1, .int tw.2.2.1, .int tw.2.2.2])), (oc, .inr (0, [.int lf, .ref oac, .int cr.2])), (oac, .inl (cIc, 600, .inl cr.1)), (od, .inr (1, [.ref oc, .int st, .int sib, .int tr.1, .int tr.2.1, .int tr.2.2.1, .int tr.2.2.2]))] sz)) 2 12 (va_A [(ox, .inr (2, [.int st, .int lf, .int ao, .ref ow, .ref og, .ref oc, .ref od, .int bad])), (ow, .inr (0, [.int lf, .ref oaw, .int wr.2])), (oaw, .inl (cIw, 600, .inl wr.1)), (og, .inr (1, [.ref ow, .int st, .int sib, .int tw.1, .int tw.2.1, .int tw.2.2.1, .int tw.2.2.2])), (oc, .inr (0, [.int lf, .ref oac, .int cr.2])), (oac, .inl (cIc, 600, .inl cr.1)), (od, .inr (1, [.ref oc, .int st, .int sib, .int tr.1, .int tr.2.1, .int tr.2.2.1, .int tr.2.2.2]))] sz) := by
  refine vx_ofW (cc := cX2_patch) (maxL := 7) (ret := (some .int)) (by decide) rfl ?_
  intro p e s m args below meth c s₁ B hml hE hv
  obtain ⟨rfl, hsz, hP, hK, hD0, hZ, hQ⟩ := hv
  have hx := B.exec
  have hb := B.bytes
  have hr := B.returns
  have hts : ∀ w ∈ G, w.before [.ref ox, .int p0, .int p1, .int p2].toArray s = true := fun w h => atoms_spec (ws := (Cond.code yX2_patch cX2_patch 7 (some .int) :: G)) B.pre w (List.mem_cons_of_mem _ h)
  have hown : s.vm.findClass RX2 = some m.cls := findClass_of_methodNamed B.named
  have hlocks := B.notSynchronized
  subst hsz
  have hD := hD0.self (sz := s.heap.size)
  generalize hAe : va_A [(ox, .inr (2, [.int st, .int lf, .int ao, .ref ow, .ref og, .ref oc, .ref od, .int bad])), (ow, .inr (0, [.int lf, .ref oaw, .int wr.2])), (oaw, .inl (cIw, 600, .inl wr.1)), (og, .inr (1, [.ref ow, .int st, .int sib, .int tw.1, .int tw.2.1, .int tw.2.2.1, .int tw.2.2.2])), (oc, .inr (0, [.int lf, .ref oac, .int cr.2])), (oac, .inl (cIc, 600, .inl cr.1)), (od, .inr (1, [.ref oc, .int st, .int sib, .int tr.1, .int tr.2.1, .int tr.2.2.1, .int tr.2.2.2]))] s.heap.size = A at hD hQ ⊢
  have hA : ∀ q : Nat, s.heap.size ≤ q → A q := fun q h => by rw [← hAe]; exact Or.inr h
  have hS : va_S A s.heap s.heap [] := va_S.rf
  have hP : va_P (dC, dI) vwCl [(ox, .inr (2, [.int st, .int lf, .int ao, .ref ow, .ref og, .ref oc, .ref od, .int bad])), (ow, .inr (0, [.int lf, .ref oaw, .int wr.2])), (oaw, .inl (cIw, 600, .inl wr.1)), (og, .inr (1, [.ref ow, .int st, .int sib, .int tw.1, .int tw.2.1, .int tw.2.2.1, .int tw.2.2.2])), (oc, .inr (0, [.int lf, .ref oac, .int cr.2])), (oac, .inl (cIc, 600, .inl cr.1)), (od, .inr (1, [.ref oc, .int st, .int sib, .int tr.1, .int tr.2.1, .int tr.2.2.1, .int tr.2.2.2]))] s.heap := hP
  have hl := lv_entry ([.ref ox, .int p0, .int p1, .int p2]) (n := 7) (Nat.le_of_ble_eq_true rfl)
  rw [lg_entry_eq]
  generalize (lg_sl ([.ref ox, .int p0, .int p1, .int p2]) ++ List.replicate (7 - (lg_sl ([.ref ox, .int p0, .int p1, .int p2])).length) Slot.unset).toArray = ls at hl ⊢
  have hl : lv_has ls 7 [(0, .ref ox), (1, .int p0), (2, .int p1), (3, .int p2)] := hl
  refine lv_aload_n hx hb dX2_patch_0 rfl (lv_at hl 0 rfl) ?_
  refine va_get (D := (dC, dI)) (ci := 2) (v := .int st) (C := RX2) (T := TX2) (N := 8) hx hb hts inGX2 hown hK hP 0 rfl rfl 0 (by decide) (hts _ wd98) (fun _ h9 => h9) rfl dX2_patch_1 ?_
  refine lv_if_eq (tgt := 17) hx hb dX2_patch_4 (by decide) (fun c_4 => ?_) (fun c_4 => ?_)
  · refine lv_iload_n hx hb dX2_patch_17 rfl (lv_at hl 2 rfl) ?_
    have hPc := hP.sub (ws' := []) [] rfl
    have hKc := hK.sub (tys' := []) [] rfl
    have hDc := hD.sub (ws' := []) [] (by decide) rfl
    have hFc := va_free (wc := []) hD hS hA [] rfl
    refine vx_callv (vx_runS (As := [.int p1]) (rest := []) ⟨hx, hb, hml, hown, hts⟩ (mX2_refuseOtherWidths l hlt dC dI s.heap.size p1) (va_cwS 1 hts (gS wd211 wd212 wd26 wd213) rfl rfl rfl (by decide +kernel) ⟨Nat.le_of_ble_eq_true rfl, Nat.le_of_ble_eq_true rfl⟩) ⟨fb_x, pre_x hPc hKc hDc hZ hQ hS hFc⟩ rfl rfl hl.1 rfl (lv_room (Nat.le_of_ble_eq_true rfl)) dX2_patch_18 ⟨Nat.le_of_ble_eq_true rfl, Nat.le_of_ble_eq_true rfl⟩) hS (fun q _ h => hFc q h) hFc (fun q _ h => hFc q h) (fun E_3 ce q9 u9 t H1 locs ht hvm hpx hBX hz1 hk1 hS hcell hcv hcl => ?_) (fun u_2 t H1 locs ht hvm hw_1 hB hz1 hk1 hS => ?_)
    · obtain ⟨hw_1, hP1, hD1⟩ := hBX
      rw [ht] at hP1
      obtain ⟨hP, hD⟩ := va_join (wr := [(ox, .inr (2, [.int st, .int lf, .int ao, .ref ow, .ref og, .ref oc, .ref od, .int bad])), (ow, .inr (0, [.int lf, .ref oaw, .int wr.2])), (oaw, .inl (cIw, 600, .inl wr.1)), (og, .inr (1, [.ref ow, .int st, .int sib, .int tw.1, .int tw.2.1, .int tw.2.2.1, .int tw.2.2.2])), (oc, .inr (0, [.int lf, .ref oac, .int cr.2])), (oac, .inl (cIc, 600, .inl cr.1)), (od, .inr (1, [.ref oc, .int st, .int sib, .int tr.1, .int tr.2.1, .int tr.2.2.1, .int tr.2.2.2]))]) (w1 := []) hP hD [] [0, 1, 2, 3, 4, 5, 6] rfl rfl (by decide) (by decide) hk1 hFc hP1 hD1
      have hP9 := hP.sub (ws' := [(ox, .inr (2, [.int st, .int lf, .int ao, .ref ow, .ref og, .ref oc, .ref od, .int bad])), (ow, .inr (0, [.int lf, .ref oaw, .int wr.2])), (oaw, .inl (cIw, 600, .inl wr.1)), (og, .inr (1, [.ref ow, .int st, .int sib, .int tw.1, .int tw.2.1, .int tw.2.2.1, .int tw.2.2.2])), (oc, .inr (0, [.int lf, .ref oac, .int cr.2])), (oac, .inl (cIc, 600, .inl cr.1)), (od, .inr (1, [.ref oc, .int st, .int sib, .int tr.1, .int tr.2.1, .int tr.2.2.1, .int tr.2.2.2]))]) [0, 1, 2, 3, 4, 5, 6] rfl
      have hD9 := hD.sub (ws' := [(ox, .inr (2, [.int st, .int lf, .int ao, .ref ow, .ref og, .ref oc, .ref od, .int bad])), (ow, .inr (0, [.int lf, .ref oaw, .int wr.2])), (oaw, .inl (cIw, 600, .inl wr.1)), (og, .inr (1, [.ref ow, .int st, .int sib, .int tw.1, .int tw.2.1, .int tw.2.2.1, .int tw.2.2.2])), (oc, .inr (0, [.int lf, .ref oac, .int cr.2])), (oac, .inl (cIc, 600, .inl cr.1)), (od, .inr (1, [.ref oc, .int st, .int sib, .int tr.1, .int tr.2.1, .int tr.2.2.1, .int tr.2.2.2]))]) [0, 1, 2, 3, 4, 5, 6] (by decide) rfl
      exact vx_out (fun x h => (hE x h).elim) hlocks hcell hcv hcl (fun t2 ht2 hvm2 => ⟨(), trivial, ⟨(plX2_patch_0 st lf ao sib wr tw cr tr bad p0 p1 p2 c_4 _ hw_1), by rw [ht2]; exact hP9, hD9⟩, hS.F ht2⟩) hS.2.2 (by omega) (by omega)
    obtain ⟨hP1, hD1⟩ := hB
    rw [ht] at hP1
    obtain ⟨hP, hD⟩ := va_join (wr := [(ox, .inr (2, [.int st, .int lf, .int ao, .ref ow, .ref og, .ref oc, .ref od, .int bad])), (ow, .inr (0, [.int lf, .ref oaw, .int wr.2])), (oaw, .inl (cIw, 600, .inl wr.1)), (og, .inr (1, [.ref ow, .int st, .int sib, .int tw.1, .int tw.2.1, .int tw.2.2.1, .int tw.2.2.2])), (oc, .inr (0, [.int lf, .ref oac, .int cr.2])), (oac, .inl (cIc, 600, .inl cr.1)), (od, .inr (1, [.ref oc, .int st, .int sib, .int tr.1, .int tr.2.1, .int tr.2.2.1, .int tr.2.2.2]))]) (w1 := []) hP hD [] [0, 1, 2, 3, 4, 5, 6] rfl rfl (by decide) (by decide) hk1 hFc hP1 hD1
    generalize H1 = H at hP hS ⊢
    have hP : va_P (dC, dI) vwCl [(ox, .inr (2, [.int st, .int lf, .int ao, .ref ow, .ref og, .ref oc, .ref od, .int bad])), (ow, .inr (0, [.int lf, .ref oaw, .int wr.2])), (oaw, .inl (cIw, 600, .inl wr.1)), (og, .inr (1, [.ref ow, .int st, .int sib, .int tw.1, .int tw.2.1, .int tw.2.2.1, .int tw.2.2.2])), (oc, .inr (0, [.int lf, .ref oac, .int cr.2])), (oac, .inl (cIc, 600, .inl cr.1)), (od, .inr (1, [.ref oc, .int st, .int sib, .int tr.1, .int tr.2.1, .int tr.2.2.1, .int tr.2.2.2]))] H := hP
    have hD : va_D A [(ox, .inr (2, [.int st, .int lf, .int ao, .ref ow, .ref og, .ref oc, .ref od, .int bad])), (ow, .inr (0, [.int lf, .ref oaw, .int wr.2])), (oaw, .inl (cIw, 600, .inl wr.1)), (og, .inr (1, [.ref ow, .int st, .int sib, .int tw.1, .int tw.2.1, .int tw.2.2.1, .int tw.2.2.2])), (oc, .inr (0, [.int lf, .ref oac, .int cr.2])), (oac, .inl (cIc, 600, .inl cr.1)), (od, .inr (1, [.ref oc, .int st, .int sib, .int tr.1, .int tr.2.1, .int tr.2.2.1, .int tr.2.2.2]))] := hD
    refine W.widen (k := 1) (n := 6) (by omega) (by omega) ?_
    refine lv_iload_n hx hb dX2_patch_21 rfl (lv_at hl 1 rfl) ?_
    refine lv_if_lt (tgt := 38) hx hb dX2_patch_22 (by decide) (fun c_22 => ?_) (fun c_22 => ?_)
    · obtain ⟨sa, hstr⟩ := hZ.2 (101, "not all of these bits were written") (by decide)
      exact vx_throwS (own := RX2) (cls := "java/lang/IndexOutOfBoundsException") (names := ["java/lang/RuntimeException", "java/lang/Exception"]) hx hb hlt hown (by decide +kernel) (by decide +kernel) (hts _ wd346) (hts _ wd37) hstr (fun w h => (xat_103 w h).elim (hts w) (fun q => hZ.use q.1 q.2)) xgood_103 hQ.1 hQ.2 hS (hl.1.trans hml.symm) dX2_patch_38 dX2_patch_41 dX2_patch_42 dX2_patch_44 dX2_patch_47 (fun x h => (hE x h).elim) (Nat.le_of_ble_eq_true rfl) (Nat.le_of_ble_eq_true rfl) (Nat.le_of_ble_eq_true rfl) (Nat.le_of_ble_eq_true rfl) hlocks (fun t hvm hz hk => ⟨(), trivial, ⟨(plX2_patch_1 st lf ao sib wr tw cr tr bad p0 p1 p2 c_4 hw_1 c_22), (x_at hS hP hz hk).1, hD⟩, (x_at hS hP hz hk).2⟩) hS.2.2 (by omega) (by omega)
    · refine lv_iload_n hx hb dX2_patch_25 rfl (lv_at hl 1 rfl) ?_
      refine lv_aload_n hx hb dX2_patch_26 rfl (lv_at hl 0 rfl) ?_
      refine va_get (D := (dC, dI)) (ci := 2) (v := .ref og) (C := RX2) (T := TX2) (N := 8) hx hb hts inGX2 hown hK hP 0 rfl rfl 4 (by decide) (hts _ wd102) (fun _ h9 => h9) rfl dX2_patch_27 ?_
      refine va_getN (D := (dC, dI)) (ci := 1) (v := .int tw.1) (C := RX1) (T := TX1) (N := 7) hx hb hts inGX1 hown hK hP 3 rfl rfl 3 (by decide) (hZ.use zw2 rfl) (fun _ h9 => h9) rfl dX2_patch_30 ?_
      refine lv_iload_n hx hb dX2_patch_33 rfl (lv_at hl 2 rfl) ?_
      refine lv_isub hx hb dX2_patch_34 ?_
      refine lv_icmp_le (tgt := 48) hx hb dX2_patch_35 (by decide) (fun c_35 => ?_) (fun c_35 => ?_)
      · refine lv_iconst (v := 0) hx hb dX2_patch_48 (by decide) ?_
        refine lv_istore (lv' := [(4, .int 0), (0, .ref ox), (1, .int p0), (2, .int p1), (3, .int p2)]) hx hb dX2_patch_49 hl (by decide) rfl (fun ls hl => ?_)
        refine lv_iconst (v := 0) hx hb dX2_patch_51 (by decide) ?_
        refine lv_istore (lv' := [(5, .int 0), (4, .int 0), (0, .ref ox), (1, .int p0), (2, .int p1), (3, .int p2)]) hx hb dX2_patch_52 hl (by decide) rfl (fun ls hl => ?_)
        exact kX2_patch_54 hx hb hr hml hown hts hlocks hA hZ hK (fz 0 p1) wr tw cr tr bad p0 p1 p2 0 0 (fz_ok _ _) (plX2_patch_2 st lf ao sib wr tw cr tr bad p0 p1 p2 c_4 hw_1 c_22 c_35) _ _ (hP.sub (ws' := [(ox, .inr (2, [.int st, .int lf, .int ao, .ref ow, .ref og, .ref oc, .ref od, .int bad])), (ow, .inr (0, [.int lf, .ref oaw, .int wr.2])), (oaw, .inl (cIw, 600, .inl wr.1)), (og, .inr (1, [.ref ow, .int st, .int sib, .int tw.1, .int tw.2.1, .int tw.2.2.1, .int tw.2.2.2])), (oc, .inr (0, [.int lf, .ref oac, .int cr.2])), (oac, .inl (cIc, 600, .inl cr.1)), (od, .inr (1, [.ref oc, .int st, .int sib, .int tr.1, .int tr.2.1, .int tr.2.2.1, .int tr.2.2.2]))]) [0, 1, 2, 3, 4, 5, 6] rfl) (hD.sub (ws' := [(ox, .inr (2, [.int st, .int lf, .int ao, .ref ow, .ref og, .ref oc, .ref od, .int bad])), (ow, .inr (0, [.int lf, .ref oaw, .int wr.2])), (oaw, .inl (cIw, 600, .inl wr.1)), (og, .inr (1, [.ref ow, .int st, .int sib, .int tw.1, .int tw.2.1, .int tw.2.2.1, .int tw.2.2.2])), (oc, .inr (0, [.int lf, .ref oac, .int cr.2])), (oac, .inl (cIc, 600, .inl cr.1)), (od, .inr (1, [.ref oc, .int st, .int sib, .int tr.1, .int tr.2.1, .int tr.2.2.1, .int tr.2.2.2]))]) [0, 1, 2, 3, 4, 5, 6] (by decide) rfl) hS ls (lv_sub hl [2, 3, 4, 5, 1, 0] rfl)
      · obtain ⟨sa, hstr⟩ := hZ.2 (101, "not all of these bits were written") (by decide)
        exact vx_throwS (own := RX2) (cls := "java/lang/IndexOutOfBoundsException") (names := ["java/lang/RuntimeException", "java/lang/Exception"]) hx hb hlt hown (by decide +kernel) (by decide +kernel) (hts _ wd346) (hts _ wd37) hstr (fun w h => (xat_103 w h).elim (hts w) (fun q => hZ.use q.1 q.2)) xgood_103 hQ.1 hQ.2 hS (hl.1.trans hml.symm) dX2_patch_38 dX2_patch_41 dX2_patch_42 dX2_patch_44 dX2_patch_47 (fun x h => (hE x h).elim) (Nat.le_of_ble_eq_true rfl) (Nat.le_of_ble_eq_true rfl) (Nat.le_of_ble_eq_true rfl) (Nat.le_of_ble_eq_true rfl) hlocks (fun t hvm hz hk => ⟨(), trivial, ⟨(plX2_patch_3 st lf ao sib wr tw cr tr bad p0 p1 p2 c_4 hw_1 c_22 c_35), (x_at hS hP hz hk).1, hD⟩, (x_at hS hP hz hk).2⟩) hS.2.2 (by omega) (by omega)
  · obtain ⟨sa, hstr⟩ := hZ.2 (97, "a stuffed row is not patched") (by decide)
    exact vx_throwS (own := RX2) (cls := "java/lang/IllegalStateException") (names := ["java/lang/RuntimeException", "java/lang/Exception"]) hx hb hlt hown (by decide +kernel) (by decide +kernel) (hts _ wd320) (hts _ wd36) hstr (fun w h => (xat_83 w h).elim (hts w) (fun q => hZ.use q.1 q.2)) xgood_83 hQ.1 hQ.2 hS (hl.1.trans hml.symm) dX2_patch_7 dX2_patch_10 dX2_patch_11 dX2_patch_13 dX2_patch_16 (fun x h => (hE x h).elim) (Nat.le_of_ble_eq_true rfl) (Nat.le_of_ble_eq_true rfl) (Nat.le_of_ble_eq_true rfl) (Nat.le_of_ble_eq_true rfl) hlocks (fun t hvm hz hk => ⟨(), trivial, ⟨(plX2_patch_4 st lf ao sib wr tw cr tr bad p0 p1 p2 c_4), (x_at hS hP hz hk).1, hD⟩, (x_at hS hP hz hk).2⟩) hS.2.2 (by omega) (by omega)
def FX2_byteAt (st : Int32) (lf : Int32) (ao : Int32) (sib : Int32) (wr : Rw) (tw : Tk) (cr : Rw) (tr : Tk) (bad : Int32) (p0 : Int32) : String ⊕ Int32 :=
  if p0 < 0 then
    Sum.inl "java/lang/IndexOutOfBoundsException"
  else
    if p0 < wr.2 then
      let r_1 := FX0_byteOf lf wr p0
      Sum.inr r_1
    else
      Sum.inl "java/lang/IndexOutOfBoundsException"
set_option maxRecDepth 100000 in
theorem plX2_byteAt_0 (st : Int32) (lf : Int32) (ao : Int32) (sib : Int32) (wr : Rw) (tw : Tk) (cr : Rw) (tr : Tk) (bad : Int32) (p0 : Int32) (c_1 : p0 < 0) : Sum.inl "java/lang/IndexOutOfBoundsException" = FX2_byteAt st lf ao sib wr tw cr tr bad p0 := by
  exact (if_pos c_1).symm
set_option maxRecDepth 100000 in
theorem plX2_byteAt_1 (st : Int32) (lf : Int32) (ao : Int32) (sib : Int32) (wr : Rw) (tw : Tk) (cr : Rw) (tr : Tk) (bad : Int32) (p0 : Int32) (c_1 : ¬ (p0 < 0)) (c_12 : p0 < wr.2) (r_1 : Int32) (hw_2 : r_1 = FX0_byteOf lf wr p0) : Sum.inr r_1 = FX2_byteAt st lf ao sib wr tw cr tr bad p0 := by
  subst hw_2
  exact ((if_neg c_1).trans (if_pos c_12)).symm
set_option maxRecDepth 100000 in
theorem plX2_byteAt_2 (st : Int32) (lf : Int32) (ao : Int32) (sib : Int32) (wr : Rw) (tw : Tk) (cr : Rw) (tr : Tk) (bad : Int32) (p0 : Int32) (c_1 : ¬ (p0 < 0)) (c_12 : ¬ (p0 < wr.2)) : Sum.inl "java/lang/IndexOutOfBoundsException" = FX2_byteAt st lf ao sib wr tw cr tr bad p0 := by
  exact ((if_neg c_1).trans (if_neg c_12)).symm
set_option maxHeartbeats 4000000 in
set_option maxRecDepth 100000 in
theorem mX2_byteAt (l : Launch) (hlt : l.stackTraces = false) (dC : Nat → ClassId) (dI : Nat → Nat → Nat) (cIw cIc : ClassId) (ox ow oaw og oc oac od : Nat) (sz : Nat) (st : Int32) (lf : Int32) (ao : Int32) (sib : Int32) (wr : Rw) (tw : Tk) (cr : Rw) (tr : Tk) (bad : Int32) (p0 : Int32) : vx_Met l yX2_byteAt (Cond.code yX2_byteAt cX2_byteAt 2 (some .int) :: G) ({ frames := 6, cells := 1, slots := 6, locals := 82 } : Room) (va_Pc [.ref ox, .int p0] (fun U => U.heap.size = sz ∧ va_P (dC, dI) vwCl [(ox, .inr (2, [.int st, .int lf, .int ao, .ref ow, .ref og, .ref oc, .ref od, .int bad])), (ow, .inr (0, [.int lf, .ref oaw, .int wr.2])), (oaw, .inl (cIw, 600, .inl wr.1)), (og, .inr (1, [.ref ow, .int st, .int sib, .int tw.1, .int tw.2.1, .int tw.2.2.1, .int tw.2.2.2])), (oc, .inr (0, [.int lf, .ref oac, .int cr.2])), (oac, .inl (cIc, 600, .inl cr.1)), (od, .inr (1, [.ref oc, .int st, .int sib, .int tr.1, .int tr.2.1, .int tr.2.2.1, .int tr.2.2.2]))] U.heap ∧ va_K (dC, dI) vwCl [(cIw, .int), (cIc, .int)] U ∧ va_D (fun _ => True) [(ox, .inr (2, [.int st, .int lf, .int ao, .ref ow, .ref og, .ref oc, .ref od, .int bad])), (ow, .inr (0, [.int lf, .ref oaw, .int wr.2])), (oaw, .inl (cIw, 600, .inl wr.1)), (og, .inr (1, [.ref ow, .int st, .int sib, .int tw.1, .int tw.2.1, .int tw.2.2.1, .int tw.2.2.2])), (oc, .inr (0, [.int lf, .ref oac, .int cr.2])), (oac, .inl (cIc, 600, .inl cr.1)), (od, .inr (1, [.ref oc, .int st, .int sib, .int tr.1, .int tr.2.1, .int tr.2.2.1, .int tr.2.2.2]))] ∧ zOk U ∧ zSt (va_A [(ox, .inr (2, [.int st, .int lf, .int ao, .ref ow, .ref og, .ref oc, .ref od, .int bad])), (ow, .inr (0, [.int lf, .ref oaw, .int wr.2])), (oaw, .inl (cIw, 600, .inl wr.1)), (og, .inr (1, [.ref ow, .int st, .int sib, .int tw.1, .int tw.2.1, .int tw.2.2.1, .int tw.2.2.2])), (oc, .inr (0, [.int lf, .ref oac, .int cr.2])), (oac, .inl (cIc, 600, .inl cr.1)), (od, .inr (1, [.ref oc, .int st, .int sib, .int tr.1, .int tr.2.1, .int tr.2.2.1, .int tr.2.2.2]))] sz) U U.heap)) (va_Qi (fun (r : Int32) (u : Unit) => Sum.inr r = (FX2_byteAt st lf ao sib wr tw cr tr bad p0)) (fun (u : Unit) (t : State) => va_P (dC, dI) vwCl [(ox, .inr (2, [.int st, .int lf, .int ao, .ref ow, .ref og, .ref oc, .ref od, .int bad])), (ow, .inr (0, [.int lf, .ref oaw, .int wr.2])), (oaw, .inl (cIw, 600, .inl wr.1)), (og, .inr (1, [.ref ow, .int st, .int sib, .int tw.1, .int tw.2.1, .int tw.2.2.1, .int tw.2.2.2])), (oc, .inr (0, [.int lf, .ref oac, .int cr.2])), (oac, .inl (cIc, 600, .inl cr.1)), (od, .inr (1, [.ref oc, .int st, .int sib, .int tr.1, .int tr.2.1, .int tr.2.2.1, .int tr.2.2.2]))] t.heap ∧ va_D (va_A [(ox, .inr (2, [.int st, .int lf, .int ao, .ref ow, .ref og, .ref oc, .ref od, .int bad])), (ow, .inr (0, [.int lf, .ref oaw, .int wr.2])), (oaw, .inl (cIw, 600, .inl wr.1)), (og, .inr (1, [.ref ow, .int st, .int sib, .int tw.1, .int tw.2.1, .int tw.2.2.1, .int tw.2.2.2])), (oc, .inr (0, [.int lf, .ref oac, .int cr.2])), (oac, .inl (cIc, 600, .inl cr.1)), (od, .inr (1, [.ref oc, .int st, .int sib, .int tr.1, .int tr.2.1, .int tr.2.2.1, .int tr.2.2.2]))] sz) [(ox, .inr (2, [.int st, .int lf, .int ao, .ref ow, .ref og, .ref oc, .ref od, .int bad])), (ow, .inr (0, [.int lf, .ref oaw, .int wr.2])), (oaw, .inl (cIw, 600, .inl wr.1)), (og, .inr (1, [.ref ow, .int st, .int sib, .int tw.1, .int tw.2.1, .int tw.2.2.1, .int tw.2.2.2])), (oc, .inr (0, [.int lf, .ref oac, .int cr.2])), (oac, .inl (cIc, 600, .inl cr.1)), (od, .inr (1, [.ref oc, .int st, .int sib, .int tr.1, .int tr.2.1, .int tr.2.2.1, .int tr.2.2.2]))]) (va_A [(ox, .inr (2, [.int st, .int lf, .int ao, .ref ow, .ref og, .ref oc, .ref od, .int bad])), (ow, .inr (0, [.int lf, .ref oaw, .int wr.2])), (oaw, .inl (cIw, 600, .inl wr.1)), (og, .inr (1, [.ref ow, .int st, .int sib, .int tw.1, .int tw.2.1, .int tw.2.2.1, .int tw.2.2.2])), (oc, .inr (0, [.int lf, .ref oac, .int cr.2])), (oac, .inl (cIc, 600, .inl cr.1)), (od, .inr (1, [.ref oc, .int st, .int sib, .int tr.1, .int tr.2.1, .int tr.2.2.1, .int tr.2.2.2]))] sz)) (vx_X (fun (_ : Unit) => True) (fun E _ t => Sum.inl E = (FX2_byteAt st lf ao sib wr tw cr tr bad p0) ∧ va_P (dC, dI) vwCl [(ox, .inr (2, [.int st, .int lf, .int ao, .ref ow, .ref og, .ref oc, .ref od, .int bad])), (ow, .inr (0, [.int lf, .ref oaw, .int wr.2])), (oaw, .inl (cIw, 600, .inl wr.1)), (og, .inr (1, [.ref ow, .int st, .int sib, .int tw.1, .int tw.2.1, .int tw.2.2.1, .int tw.2.2.2])), (oc, .inr (0, [.int lf, .ref oac, .int cr.2])), (oac, .inl (cIc, 600, .inl cr.1)), (od, .inr (1, [.ref oc, .int st, .int sib, .int tr.1, .int tr.2.1, .int tr.2.2.1, .int tr.2.2.2]))] t.heap ∧ va_D (va_A [(ox, .inr (2, [.int st, .int lf, .int ao, .ref ow, .ref og, .ref oc, .ref od, .int bad])), (ow, .inr (0, [.int lf, .ref oaw, .int wr.2])), (oaw, .inl (cIw, 600, .inl wr.1)), (og, .inr (1, [.ref ow, .int st, .int sib, .int tw.1, .int tw.2.1, .int tw.2.2.1, .int tw.2.2.2])), (oc, .inr (0, [.int lf, .ref oac, .int cr.2])), (oac, .inl (cIc, 600, .inl cr.1)), (od, .inr (1, [.ref oc, .int st, .int sib, .int tr.1, .int tr.2.1, .int tr.2.2.1, .int tr.2.2.2]))] sz) [(ox, .inr (2, [.int st, .int lf, .int ao, .ref ow, .ref og, .ref oc, .ref od, .int bad])), (ow, .inr (0, [.int lf, .ref oaw, .int wr.2])), (oaw, .inl (cIw, 600, .inl wr.1)), (og, .inr (1, [.ref ow, .int st, .int sib, .int tw.1, .int tw.2.1, .int tw.2.2.1, .int tw.2.2.2])), (oc, .inr (0, [.int lf, .ref oac, .int cr.2])), (oac, .inl (cIc, 600, .inl cr.1)), (od, .inr (1, [.ref oc, .int st, .int sib, .int tr.1, .int tr.2.1, .int tr.2.2.1, .int tr.2.2.2]))]) (va_A [(ox, .inr (2, [.int st, .int lf, .int ao, .ref ow, .ref og, .ref oc, .ref od, .int bad])), (ow, .inr (0, [.int lf, .ref oaw, .int wr.2])), (oaw, .inl (cIw, 600, .inl wr.1)), (og, .inr (1, [.ref ow, .int st, .int sib, .int tw.1, .int tw.2.1, .int tw.2.2.1, .int tw.2.2.2])), (oc, .inr (0, [.int lf, .ref oac, .int cr.2])), (oac, .inl (cIc, 600, .inl cr.1)), (od, .inr (1, [.ref oc, .int st, .int sib, .int tr.1, .int tr.2.1, .int tr.2.2.1, .int tr.2.2.2]))] sz)) 1 6 (va_A [(ox, .inr (2, [.int st, .int lf, .int ao, .ref ow, .ref og, .ref oc, .ref od, .int bad])), (ow, .inr (0, [.int lf, .ref oaw, .int wr.2])), (oaw, .inl (cIw, 600, .inl wr.1)), (og, .inr (1, [.ref ow, .int st, .int sib, .int tw.1, .int tw.2.1, .int tw.2.2.1, .int tw.2.2.2])), (oc, .inr (0, [.int lf, .ref oac, .int cr.2])), (oac, .inl (cIc, 600, .inl cr.1)), (od, .inr (1, [.ref oc, .int st, .int sib, .int tr.1, .int tr.2.1, .int tr.2.2.1, .int tr.2.2.2]))] sz) := by
  refine vx_ofW (cc := cX2_byteAt) (maxL := 2) (ret := (some .int)) (by decide) rfl ?_
  intro p e s m args below meth c s₁ B hml hE hv
  obtain ⟨rfl, hsz, hP, hK, hD0, hZ, hQ⟩ := hv
  have hx := B.exec
  have hb := B.bytes
  have hr := B.returns
  have hts : ∀ w ∈ G, w.before [.ref ox, .int p0].toArray s = true := fun w h => atoms_spec (ws := (Cond.code yX2_byteAt cX2_byteAt 2 (some .int) :: G)) B.pre w (List.mem_cons_of_mem _ h)
  have hown : s.vm.findClass RX2 = some m.cls := findClass_of_methodNamed B.named
  have hlocks := B.notSynchronized
  subst hsz
  have hD := hD0.self (sz := s.heap.size)
  generalize hAe : va_A [(ox, .inr (2, [.int st, .int lf, .int ao, .ref ow, .ref og, .ref oc, .ref od, .int bad])), (ow, .inr (0, [.int lf, .ref oaw, .int wr.2])), (oaw, .inl (cIw, 600, .inl wr.1)), (og, .inr (1, [.ref ow, .int st, .int sib, .int tw.1, .int tw.2.1, .int tw.2.2.1, .int tw.2.2.2])), (oc, .inr (0, [.int lf, .ref oac, .int cr.2])), (oac, .inl (cIc, 600, .inl cr.1)), (od, .inr (1, [.ref oc, .int st, .int sib, .int tr.1, .int tr.2.1, .int tr.2.2.1, .int tr.2.2.2]))] s.heap.size = A at hD hQ ⊢
  have hA : ∀ q : Nat, s.heap.size ≤ q → A q := fun q h => by rw [← hAe]; exact Or.inr h
  have hS : va_S A s.heap s.heap [] := va_S.rf
  have hP : va_P (dC, dI) vwCl [(ox, .inr (2, [.int st, .int lf, .int ao, .ref ow, .ref og, .ref oc, .ref od, .int bad])), (ow, .inr (0, [.int lf, .ref oaw, .int wr.2])), (oaw, .inl (cIw, 600, .inl wr.1)), (og, .inr (1, [.ref ow, .int st, .int sib, .int tw.1, .int tw.2.1, .int tw.2.2.1, .int tw.2.2.2])), (oc, .inr (0, [.int lf, .ref oac, .int cr.2])), (oac, .inl (cIc, 600, .inl cr.1)), (od, .inr (1, [.ref oc, .int st, .int sib, .int tr.1, .int tr.2.1, .int tr.2.2.1, .int tr.2.2.2]))] s.heap := hP
  have hl := lv_entry ([.ref ox, .int p0]) (n := 2) (Nat.le_of_ble_eq_true rfl)
  rw [lg_entry_eq]
  generalize (lg_sl ([.ref ox, .int p0]) ++ List.replicate (2 - (lg_sl ([.ref ox, .int p0])).length) Slot.unset).toArray = ls at hl ⊢
  have hl : lv_has ls 2 [(0, .ref ox), (1, .int p0)] := hl
  refine lv_iload_n hx hb dX2_byteAt_0 rfl (lv_at hl 1 rfl) ?_
  refine lv_if_lt (tgt := 15) hx hb dX2_byteAt_1 (by decide) (fun c_1 => ?_) (fun c_1 => ?_)
  · obtain ⟨sa, hstr⟩ := hZ.2 (115, "no such byte was written") (by decide)
    exact vx_throwS (own := RX2) (cls := "java/lang/IndexOutOfBoundsException") (names := ["java/lang/RuntimeException", "java/lang/Exception"]) hx hb hlt hown (by decide +kernel) (by decide +kernel) (hts _ wd346) (hts _ wd37) hstr (fun w h => (xat_103 w h).elim (hts w) (fun q => hZ.use q.1 q.2)) xgood_103 hQ.1 hQ.2 hS (hl.1.trans hml.symm) dX2_byteAt_15 dX2_byteAt_18 dX2_byteAt_19 dX2_byteAt_21 dX2_byteAt_24 (fun x h => (hE x h).elim) (Nat.le_of_ble_eq_true rfl) (Nat.le_of_ble_eq_true rfl) (Nat.le_of_ble_eq_true rfl) (Nat.le_of_ble_eq_true rfl) hlocks (fun t hvm hz hk => ⟨(), trivial, ⟨(plX2_byteAt_0 st lf ao sib wr tw cr tr bad p0 c_1), (x_at hS hP hz hk).1, hD⟩, (x_at hS hP hz hk).2⟩) hS.2.2 (by omega) (by omega)
  · refine lv_iload_n hx hb dX2_byteAt_4 rfl (lv_at hl 1 rfl) ?_
    refine lv_aload_n hx hb dX2_byteAt_5 rfl (lv_at hl 0 rfl) ?_
    refine va_get (D := (dC, dI)) (ci := 2) (v := .ref ow) (C := RX2) (T := TX2) (N := 8) hx hb hts inGX2 hown hK hP 0 rfl rfl 3 (by decide) (hts _ wd101) (fun _ h9 => h9) rfl dX2_byteAt_6 ?_
    refine va_getN (D := (dC, dI)) (ci := 0) (v := .int wr.2) (C := RX0) (T := TX0) (N := 3) hx hb hts inGX0 hown hK hP 1 rfl rfl 2 (by decide) (hZ.use zw1 rfl) (fun _ h9 => h9) rfl dX2_byteAt_9 ?_
    refine lv_icmp_lt (tgt := 25) hx hb dX2_byteAt_12 (by decide) (fun c_12 => ?_) (fun c_12 => ?_)
    · refine lv_aload_n hx hb dX2_byteAt_25 rfl (lv_at hl 0 rfl) ?_
      refine va_get (D := (dC, dI)) (ci := 2) (v := .ref ow) (C := RX2) (T := TX2) (N := 8) hx hb hts inGX2 hown hK hP 0 rfl rfl 3 (by decide) (hts _ wd101) (fun _ h9 => h9) rfl dX2_byteAt_26 ?_
      refine lv_iload_n hx hb dX2_byteAt_29 rfl (lv_at hl 1 rfl) ?_
      have hPc := hP.sub (ws' := [(ow, .inr (0, [.int lf, .ref oaw, .int wr.2])), (oaw, .inl (cIw, 600, .inl wr.1))]) [1, 2] rfl
      have hKc := hK.sub (tys' := [(cIw, .int)]) [0] rfl
      refine vp_callSi (va_Run.run (va_runV (As := [.int p0]) (rest := []) ⟨hx, hb, hml, hown, hts⟩ (mX0_byteOf l dC dI cIw ow oaw lf wr p0) (cwV 1 hts (gV wd175 wd139 wd140 wd28 wd141) rfl rfl rfl (by decide +kernel) ⟨Nat.le_of_ble_eq_true rfl, Nat.le_of_ble_eq_true rfl⟩) ⟨fb_ro, va_recv hKc hPc (ci := 0) (q0 := 0) rfl rfl, pre_ro hPc hKc hZ⟩ rfl rfl hl.1 rfl (lv_room (Nat.le_of_ble_eq_true rfl)) dX2_byteAt_30 ⟨Nat.le_of_ble_eq_true rfl, Nat.le_of_ble_eq_true rfl⟩)) (fun r_1 hw_2 => ?_)
      have hP9 := hP.sub (ws' := [(ox, .inr (2, [.int st, .int lf, .int ao, .ref ow, .ref og, .ref oc, .ref od, .int bad])), (ow, .inr (0, [.int lf, .ref oaw, .int wr.2])), (oaw, .inl (cIw, 600, .inl wr.1)), (og, .inr (1, [.ref ow, .int st, .int sib, .int tw.1, .int tw.2.1, .int tw.2.2.1, .int tw.2.2.2])), (oc, .inr (0, [.int lf, .ref oac, .int cr.2])), (oac, .inl (cIc, 600, .inl cr.1)), (od, .inr (1, [.ref oc, .int st, .int sib, .int tr.1, .int tr.2.1, .int tr.2.2.1, .int tr.2.2.2]))]) [0, 1, 2, 3, 4, 5, 6] rfl
      have hD9 := hD.sub (ws' := [(ox, .inr (2, [.int st, .int lf, .int ao, .ref ow, .ref og, .ref oc, .ref od, .int bad])), (ow, .inr (0, [.int lf, .ref oaw, .int wr.2])), (oaw, .inl (cIw, 600, .inl wr.1)), (og, .inr (1, [.ref ow, .int st, .int sib, .int tw.1, .int tw.2.1, .int tw.2.2.1, .int tw.2.2.2])), (oc, .inr (0, [.int lf, .ref oac, .int cr.2])), (oac, .inl (cIc, 600, .inl cr.1)), (od, .inr (1, [.ref oc, .int st, .int sib, .int tr.1, .int tr.2.1, .int tr.2.2.1, .int tr.2.2.2]))]) [0, 1, 2, 3, 4, 5, 6] (by decide) rfl
      refine vx_ret ?_
      refine W.widen (k := 1) (n := 6) (by omega) (by omega) ?_
      exact W.iret (v := r_1) hx hb hr (fun t ht hW => ⟨⟨r_1, (), rfl, (plX2_byteAt_1 st lf ao sib wr tw cr tr bad p0 c_1 c_12 _ hw_2), by rw [ht]; exact hP9, hD9⟩, hS.F ht⟩) hS.2.2 dX2_byteAt_33
    · obtain ⟨sa, hstr⟩ := hZ.2 (115, "no such byte was written") (by decide)
      exact vx_throwS (own := RX2) (cls := "java/lang/IndexOutOfBoundsException") (names := ["java/lang/RuntimeException", "java/lang/Exception"]) hx hb hlt hown (by decide +kernel) (by decide +kernel) (hts _ wd346) (hts _ wd37) hstr (fun w h => (xat_103 w h).elim (hts w) (fun q => hZ.use q.1 q.2)) xgood_103 hQ.1 hQ.2 hS (hl.1.trans hml.symm) dX2_byteAt_15 dX2_byteAt_18 dX2_byteAt_19 dX2_byteAt_21 dX2_byteAt_24 (fun x h => (hE x h).elim) (Nat.le_of_ble_eq_true rfl) (Nat.le_of_ble_eq_true rfl) (Nat.le_of_ble_eq_true rfl) (Nat.le_of_ble_eq_true rfl) hlocks (fun t hvm hz hk => ⟨(), trivial, ⟨(plX2_byteAt_2 st lf ao sib wr tw cr tr bad p0 c_1 c_12), (x_at hS hP hz hk).1, hD⟩, (x_at hS hP hz hk).2⟩) hS.2.2 (by omega) (by omega)
def FX2_feed (st : Int32) (lf : Int32) (ao : Int32) (sib : Int32) (wr : Rw) (tw : Tk) (cr : Rw) (tr : Tk) (bad : Int32) (p0 : Int32) : String ⊕ (Int32 × Rw) :=
  if p0 < 0 then
    Sum.inl "java/lang/IllegalArgumentException"
  else
    if p0 ≤ 255 then
      xbind (FX2_refuseMoreBytes st lf ao sib wr tw cr tr bad 1) (fun zhw_1 =>
        let u_5 := FX0_addByte lf cr p0
        Sum.inr (u_5.2, u_5))
    else
      Sum.inl "java/lang/IllegalArgumentException"
set_option maxRecDepth 100000 in
theorem plX2_feed_0 (st : Int32) (lf : Int32) (ao : Int32) (sib : Int32) (wr : Rw) (tw : Tk) (cr : Rw) (tr : Tk) (bad : Int32) (p0 : Int32) (c_1 : p0 < 0) : Sum.inl "java/lang/IllegalArgumentException" = FX2_feed st lf ao sib wr tw cr tr bad p0 := by
  exact (if_pos c_1).symm
set_option maxRecDepth 100000 in
theorem plX2_feed_1 (st : Int32) (lf : Int32) (ao : Int32) (sib : Int32) (wr : Rw) (tw : Tk) (cr : Rw) (tr : Tk) (bad : Int32) (p0 : Int32) (c_1 : ¬ (p0 < 0)) (c_8 : p0 ≤ 255) (E_3 : String) (hw_1 : Sum.inl E_3 = FX2_refuseMoreBytes st lf ao sib wr tw cr tr bad 1) : Sum.inl E_3 = FX2_feed st lf ao sib wr tw cr tr bad p0 := by
  refine Eq.symm ?_
  refine (if_neg c_1).trans ?_
  refine (if_pos c_8).trans ?_
  refine (xb_inl hw_1).trans ?_
  exact rfl
set_option maxRecDepth 100000 in
theorem plX2_feed_2 (st : Int32) (lf : Int32) (ao : Int32) (sib : Int32) (wr : Rw) (tw : Tk) (cr : Rw) (tr : Tk) (bad : Int32) (p0 : Int32) (c_1 : ¬ (p0 < 0)) (c_8 : p0 ≤ 255) (hw_1 : Sum.inr () = FX2_refuseMoreBytes st lf ao sib wr tw cr tr bad 1) (u_5 : Rw) (hw_4 : u_5 = FX0_addByte lf cr p0) : Sum.inr (u_5.2, u_5) = FX2_feed st lf ao sib wr tw cr tr bad p0 := by
  subst hw_4
  refine Eq.symm ?_
  refine (if_neg c_1).trans ?_
  refine (if_pos c_8).trans ?_
  refine (xb_inr hw_1).trans ?_
  exact rfl
set_option maxRecDepth 100000 in
theorem plX2_feed_3 (st : Int32) (lf : Int32) (ao : Int32) (sib : Int32) (wr : Rw) (tw : Tk) (cr : Rw) (tr : Tk) (bad : Int32) (p0 : Int32) (c_1 : ¬ (p0 < 0)) (c_8 : ¬ (p0 ≤ 255)) : Sum.inl "java/lang/IllegalArgumentException" = FX2_feed st lf ao sib wr tw cr tr bad p0 := by
  exact ((if_neg c_1).trans (if_neg c_8)).symm
set_option maxHeartbeats 4000000 in
set_option maxRecDepth 100000 in
theorem mX2_feed (l : Launch) (hlt : l.stackTraces = false) (dC : Nat → ClassId) (dI : Nat → Nat → Nat) (cIw cIc : ClassId) (ox ow oaw og oc oac od : Nat) (sz : Nat) (st : Int32) (lf : Int32) (ao : Int32) (sib : Int32) (wr : Rw) (tw : Tk) (cr : Rw) (tr : Tk) (bad : Int32) (p0 : Int32) : vx_Met l yX2_feed (Cond.code yX2_feed cX2_feed 2 (some .int) :: G) ({ frames := 7, cells := 1, slots := 6, locals := 103 } : Room) (va_Pc [.ref ox, .int p0] (fun U => U.heap.size = sz ∧ va_P (dC, dI) vwCl [(ox, .inr (2, [.int st, .int lf, .int ao, .ref ow, .ref og, .ref oc, .ref od, .int bad])), (ow, .inr (0, [.int lf, .ref oaw, .int wr.2])), (oaw, .inl (cIw, 600, .inl wr.1)), (og, .inr (1, [.ref ow, .int st, .int sib, .int tw.1, .int tw.2.1, .int tw.2.2.1, .int tw.2.2.2])), (oc, .inr (0, [.int lf, .ref oac, .int cr.2])), (oac, .inl (cIc, 600, .inl cr.1)), (od, .inr (1, [.ref oc, .int st, .int sib, .int tr.1, .int tr.2.1, .int tr.2.2.1, .int tr.2.2.2]))] U.heap ∧ va_K (dC, dI) vwCl [(cIw, .int), (cIc, .int)] U ∧ va_D (fun _ => True) [(ox, .inr (2, [.int st, .int lf, .int ao, .ref ow, .ref og, .ref oc, .ref od, .int bad])), (ow, .inr (0, [.int lf, .ref oaw, .int wr.2])), (oaw, .inl (cIw, 600, .inl wr.1)), (og, .inr (1, [.ref ow, .int st, .int sib, .int tw.1, .int tw.2.1, .int tw.2.2.1, .int tw.2.2.2])), (oc, .inr (0, [.int lf, .ref oac, .int cr.2])), (oac, .inl (cIc, 600, .inl cr.1)), (od, .inr (1, [.ref oc, .int st, .int sib, .int tr.1, .int tr.2.1, .int tr.2.2.1, .int tr.2.2.2]))] ∧ zOk U ∧ zSt (va_A [(ox, .inr (2, [.int st, .int lf, .int ao, .ref ow, .ref og, .ref oc, .ref od, .int bad])), (ow, .inr (0, [.int lf, .ref oaw, .int wr.2])), (oaw, .inl (cIw, 600, .inl wr.1)), (og, .inr (1, [.ref ow, .int st, .int sib, .int tw.1, .int tw.2.1, .int tw.2.2.1, .int tw.2.2.2])), (oc, .inr (0, [.int lf, .ref oac, .int cr.2])), (oac, .inl (cIc, 600, .inl cr.1)), (od, .inr (1, [.ref oc, .int st, .int sib, .int tr.1, .int tr.2.1, .int tr.2.2.1, .int tr.2.2.2]))] sz) U U.heap)) (va_Qi (fun (r : Int32) (u : Rw) => Sum.inr (r, u) = (FX2_feed st lf ao sib wr tw cr tr bad p0)) (fun (u : Rw) (t : State) => va_P (dC, dI) vwCl [(ox, .inr (2, [.int st, .int lf, .int ao, .ref ow, .ref og, .ref oc, .ref od, .int bad])), (ow, .inr (0, [.int lf, .ref oaw, .int wr.2])), (oaw, .inl (cIw, 600, .inl wr.1)), (og, .inr (1, [.ref ow, .int st, .int sib, .int tw.1, .int tw.2.1, .int tw.2.2.1, .int tw.2.2.2])), (oc, .inr (0, [.int lf, .ref oac, .int u.2])), (oac, .inl (cIc, 600, .inl u.1)), (od, .inr (1, [.ref oc, .int st, .int sib, .int tr.1, .int tr.2.1, .int tr.2.2.1, .int tr.2.2.2]))] t.heap ∧ va_D (va_A [(ox, .inr (2, [.int st, .int lf, .int ao, .ref ow, .ref og, .ref oc, .ref od, .int bad])), (ow, .inr (0, [.int lf, .ref oaw, .int wr.2])), (oaw, .inl (cIw, 600, .inl wr.1)), (og, .inr (1, [.ref ow, .int st, .int sib, .int tw.1, .int tw.2.1, .int tw.2.2.1, .int tw.2.2.2])), (oc, .inr (0, [.int lf, .ref oac, .int cr.2])), (oac, .inl (cIc, 600, .inl cr.1)), (od, .inr (1, [.ref oc, .int st, .int sib, .int tr.1, .int tr.2.1, .int tr.2.2.1, .int tr.2.2.2]))] sz) [(ox, .inr (2, [.int st, .int lf, .int ao, .ref ow, .ref og, .ref oc, .ref od, .int bad])), (ow, .inr (0, [.int lf, .ref oaw, .int wr.2])), (oaw, .inl (cIw, 600, .inl wr.1)), (og, .inr (1, [.ref ow, .int st, .int sib, .int tw.1, .int tw.2.1, .int tw.2.2.1, .int tw.2.2.2])), (oc, .inr (0, [.int lf, .ref oac, .int u.2])), (oac, .inl (cIc, 600, .inl u.1)), (od, .inr (1, [.ref oc, .int st, .int sib, .int tr.1, .int tr.2.1, .int tr.2.2.1, .int tr.2.2.2]))]) (va_A [(ox, .inr (2, [.int st, .int lf, .int ao, .ref ow, .ref og, .ref oc, .ref od, .int bad])), (ow, .inr (0, [.int lf, .ref oaw, .int wr.2])), (oaw, .inl (cIw, 600, .inl wr.1)), (og, .inr (1, [.ref ow, .int st, .int sib, .int tw.1, .int tw.2.1, .int tw.2.2.1, .int tw.2.2.2])), (oc, .inr (0, [.int lf, .ref oac, .int cr.2])), (oac, .inl (cIc, 600, .inl cr.1)), (od, .inr (1, [.ref oc, .int st, .int sib, .int tr.1, .int tr.2.1, .int tr.2.2.1, .int tr.2.2.2]))] sz)) (vx_X (fun (_ : Unit) => True) (fun E _ t => Sum.inl E = (FX2_feed st lf ao sib wr tw cr tr bad p0) ∧ va_P (dC, dI) vwCl [(ox, .inr (2, [.int st, .int lf, .int ao, .ref ow, .ref og, .ref oc, .ref od, .int bad])), (ow, .inr (0, [.int lf, .ref oaw, .int wr.2])), (oaw, .inl (cIw, 600, .inl wr.1)), (og, .inr (1, [.ref ow, .int st, .int sib, .int tw.1, .int tw.2.1, .int tw.2.2.1, .int tw.2.2.2])), (oc, .inr (0, [.int lf, .ref oac, .int cr.2])), (oac, .inl (cIc, 600, .inl cr.1)), (od, .inr (1, [.ref oc, .int st, .int sib, .int tr.1, .int tr.2.1, .int tr.2.2.1, .int tr.2.2.2]))] t.heap ∧ va_D (va_A [(ox, .inr (2, [.int st, .int lf, .int ao, .ref ow, .ref og, .ref oc, .ref od, .int bad])), (ow, .inr (0, [.int lf, .ref oaw, .int wr.2])), (oaw, .inl (cIw, 600, .inl wr.1)), (og, .inr (1, [.ref ow, .int st, .int sib, .int tw.1, .int tw.2.1, .int tw.2.2.1, .int tw.2.2.2])), (oc, .inr (0, [.int lf, .ref oac, .int cr.2])), (oac, .inl (cIc, 600, .inl cr.1)), (od, .inr (1, [.ref oc, .int st, .int sib, .int tr.1, .int tr.2.1, .int tr.2.2.1, .int tr.2.2.2]))] sz) [(ox, .inr (2, [.int st, .int lf, .int ao, .ref ow, .ref og, .ref oc, .ref od, .int bad])), (ow, .inr (0, [.int lf, .ref oaw, .int wr.2])), (oaw, .inl (cIw, 600, .inl wr.1)), (og, .inr (1, [.ref ow, .int st, .int sib, .int tw.1, .int tw.2.1, .int tw.2.2.1, .int tw.2.2.2])), (oc, .inr (0, [.int lf, .ref oac, .int cr.2])), (oac, .inl (cIc, 600, .inl cr.1)), (od, .inr (1, [.ref oc, .int st, .int sib, .int tr.1, .int tr.2.1, .int tr.2.2.1, .int tr.2.2.2]))]) (va_A [(ox, .inr (2, [.int st, .int lf, .int ao, .ref ow, .ref og, .ref oc, .ref od, .int bad])), (ow, .inr (0, [.int lf, .ref oaw, .int wr.2])), (oaw, .inl (cIw, 600, .inl wr.1)), (og, .inr (1, [.ref ow, .int st, .int sib, .int tw.1, .int tw.2.1, .int tw.2.2.1, .int tw.2.2.2])), (oc, .inr (0, [.int lf, .ref oac, .int cr.2])), (oac, .inl (cIc, 600, .inl cr.1)), (od, .inr (1, [.ref oc, .int st, .int sib, .int tr.1, .int tr.2.1, .int tr.2.2.1, .int tr.2.2.2]))] sz)) 1 6 (va_A [(ox, .inr (2, [.int st, .int lf, .int ao, .ref ow, .ref og, .ref oc, .ref od, .int bad])), (ow, .inr (0, [.int lf, .ref oaw, .int wr.2])), (oaw, .inl (cIw, 600, .inl wr.1)), (og, .inr (1, [.ref ow, .int st, .int sib, .int tw.1, .int tw.2.1, .int tw.2.2.1, .int tw.2.2.2])), (oc, .inr (0, [.int lf, .ref oac, .int cr.2])), (oac, .inl (cIc, 600, .inl cr.1)), (od, .inr (1, [.ref oc, .int st, .int sib, .int tr.1, .int tr.2.1, .int tr.2.2.1, .int tr.2.2.2]))] sz) := by
  refine vx_ofW (cc := cX2_feed) (maxL := 2) (ret := (some .int)) (by decide) rfl ?_
  intro p e s m args below meth c s₁ B hml hE hv
  obtain ⟨rfl, hsz, hP, hK, hD0, hZ, hQ⟩ := hv
  have hx := B.exec
  have hb := B.bytes
  have hr := B.returns
  have hts : ∀ w ∈ G, w.before [.ref ox, .int p0].toArray s = true := fun w h => atoms_spec (ws := (Cond.code yX2_feed cX2_feed 2 (some .int) :: G)) B.pre w (List.mem_cons_of_mem _ h)
  have hown : s.vm.findClass RX2 = some m.cls := findClass_of_methodNamed B.named
  have hlocks := B.notSynchronized
  subst hsz
  have hD := hD0.self (sz := s.heap.size)
  generalize hAe : va_A [(ox, .inr (2, [.int st, .int lf, .int ao, .ref ow, .ref og, .ref oc, .ref od, .int bad])), (ow, .inr (0, [.int lf, .ref oaw, .int wr.2])), (oaw, .inl (cIw, 600, .inl wr.1)), (og, .inr (1, [.ref ow, .int st, .int sib, .int tw.1, .int tw.2.1, .int tw.2.2.1, .int tw.2.2.2])), (oc, .inr (0, [.int lf, .ref oac, .int cr.2])), (oac, .inl (cIc, 600, .inl cr.1)), (od, .inr (1, [.ref oc, .int st, .int sib, .int tr.1, .int tr.2.1, .int tr.2.2.1, .int tr.2.2.2]))] s.heap.size = A at hD hQ ⊢
  have hA : ∀ q : Nat, s.heap.size ≤ q → A q := fun q h => by rw [← hAe]; exact Or.inr h
  have hS : va_S A s.heap s.heap [] := va_S.rf
  have hP : va_P (dC, dI) vwCl [(ox, .inr (2, [.int st, .int lf, .int ao, .ref ow, .ref og, .ref oc, .ref od, .int bad])), (ow, .inr (0, [.int lf, .ref oaw, .int wr.2])), (oaw, .inl (cIw, 600, .inl wr.1)), (og, .inr (1, [.ref ow, .int st, .int sib, .int tw.1, .int tw.2.1, .int tw.2.2.1, .int tw.2.2.2])), (oc, .inr (0, [.int lf, .ref oac, .int cr.2])), (oac, .inl (cIc, 600, .inl cr.1)), (od, .inr (1, [.ref oc, .int st, .int sib, .int tr.1, .int tr.2.1, .int tr.2.2.1, .int tr.2.2.2]))] s.heap := hP
  have hl := lv_entry ([.ref ox, .int p0]) (n := 2) (Nat.le_of_ble_eq_true rfl)
  rw [lg_entry_eq]
  generalize (lg_sl ([.ref ox, .int p0]) ++ List.replicate (2 - (lg_sl ([.ref ox, .int p0])).length) Slot.unset).toArray = ls at hl ⊢
  have hl : lv_has ls 2 [(0, .ref ox), (1, .int p0)] := hl
  refine lv_iload_n hx hb dX2_feed_0 rfl (lv_at hl 1 rfl) ?_
  refine lv_if_lt (tgt := 11) hx hb dX2_feed_1 (by decide) (fun c_1 => ?_) (fun c_1 => ?_)
  · obtain ⟨sa, hstr⟩ := hZ.2 (120, "a byte is 0 .. 255") (by decide)
    exact vx_throwS (own := RX2) (cls := "java/lang/IllegalArgumentException") (names := ["java/lang/RuntimeException", "java/lang/Exception"]) hx hb hlt hown (by decide +kernel) (by decide +kernel) (hts _ wd214) (hts _ wd34) hstr (fun w h => (xat_90 w h).elim (hts w) (fun q => hZ.use q.1 q.2)) xgood_90 hQ.1 hQ.2 hS (hl.1.trans hml.symm) dX2_feed_11 dX2_feed_14 dX2_feed_15 dX2_feed_17 dX2_feed_20 (fun x h => (hE x h).elim) (Nat.le_of_ble_eq_true rfl) (Nat.le_of_ble_eq_true rfl) (Nat.le_of_ble_eq_true rfl) (Nat.le_of_ble_eq_true rfl) hlocks (fun t hvm hz hk => ⟨(), trivial, ⟨(plX2_feed_0 st lf ao sib wr tw cr tr bad p0 c_1), (x_at hS hP hz hk).1, hD⟩, (x_at hS hP hz hk).2⟩) hS.2.2 (by omega) (by omega)
  · refine lv_iload_n hx hb dX2_feed_4 rfl (lv_at hl 1 rfl) ?_
    refine lv_sipush (v := 255) hx hb dX2_feed_5 (by decide) ?_
    refine lv_icmp_le (tgt := 21) hx hb dX2_feed_8 (by decide) (fun c_8 => ?_) (fun c_8 => ?_)
    · refine lv_aload_n hx hb dX2_feed_21 rfl (lv_at hl 0 rfl) ?_
      refine lv_iconst (v := 1) hx hb dX2_feed_22 (by decide) ?_
      have hPc := hP.sub (ws' := [(ox, .inr (2, [.int st, .int lf, .int ao, .ref ow, .ref og, .ref oc, .ref od, .int bad])), (ow, .inr (0, [.int lf, .ref oaw, .int wr.2])), (oaw, .inl (cIw, 600, .inl wr.1)), (og, .inr (1, [.ref ow, .int st, .int sib, .int tw.1, .int tw.2.1, .int tw.2.2.1, .int tw.2.2.2])), (oc, .inr (0, [.int lf, .ref oac, .int cr.2])), (oac, .inl (cIc, 600, .inl cr.1)), (od, .inr (1, [.ref oc, .int st, .int sib, .int tr.1, .int tr.2.1, .int tr.2.2.1, .int tr.2.2.2]))]) [0, 1, 2, 3, 4, 5, 6] rfl
      have hKc := hK.sub (tys' := [(cIw, .int), (cIc, .int)]) [0, 1] rfl
      have hDc := hD.sub (ws' := [(ox, .inr (2, [.int st, .int lf, .int ao, .ref ow, .ref og, .ref oc, .ref od, .int bad])), (ow, .inr (0, [.int lf, .ref oaw, .int wr.2])), (oaw, .inl (cIw, 600, .inl wr.1)), (og, .inr (1, [.ref ow, .int st, .int sib, .int tw.1, .int tw.2.1, .int tw.2.2.1, .int tw.2.2.2])), (oc, .inr (0, [.int lf, .ref oac, .int cr.2])), (oac, .inl (cIc, 600, .inl cr.1)), (od, .inr (1, [.ref oc, .int st, .int sib, .int tr.1, .int tr.2.1, .int tr.2.2.1, .int tr.2.2.2]))]) [0, 1, 2, 3, 4, 5, 6] (by decide) rfl
      have hFc := va_free (wc := [(ox, .inr (2, [.int st, .int lf, .int ao, .ref ow, .ref og, .ref oc, .ref od, .int bad])), (ow, .inr (0, [.int lf, .ref oaw, .int wr.2])), (oaw, .inl (cIw, 600, .inl wr.1)), (og, .inr (1, [.ref ow, .int st, .int sib, .int tw.1, .int tw.2.1, .int tw.2.2.1, .int tw.2.2.2])), (oc, .inr (0, [.int lf, .ref oac, .int cr.2])), (oac, .inl (cIc, 600, .inl cr.1)), (od, .inr (1, [.ref oc, .int st, .int sib, .int tr.1, .int tr.2.1, .int tr.2.2.1, .int tr.2.2.2]))]) hD hS hA [0, 1, 2, 3, 4, 5, 6] rfl
      refine vx_callv (vx_runV (As := [.int 1]) (rest := []) ⟨hx, hb, hml, hown, hts⟩ (mX2_refuseMoreBytes l hlt dC dI cIw cIc ox ow oaw og oc oac od s.heap.size st lf ao sib wr tw cr tr bad 1) (cwV 1 hts (gV wd374 wd375 wd7 wd26 wd376) rfl rfl rfl (by decide +kernel) ⟨Nat.le_of_ble_eq_true rfl, Nat.le_of_ble_eq_true rfl⟩) ⟨fb_x, va_recv hKc hPc (ci := 2) (q0 := 0) rfl rfl, pre_x hPc hKc hDc hZ hQ hS hFc⟩ rfl rfl hl.1 rfl (lv_room (Nat.le_of_ble_eq_true rfl)) dX2_feed_23 ⟨Nat.le_of_ble_eq_true rfl, Nat.le_of_ble_eq_true rfl⟩) hS (fun q _ h => hFc q h) hFc (fun q _ h => hFc q h) (fun E_3 ce q9 u9 t H1 locs ht hvm hpx hBX hz1 hk1 hS hcell hcv hcl => ?_) (fun u_2 t H1 locs ht hvm hw_1 hB hz1 hk1 hS => ?_)
      · obtain ⟨hw_1, hP1, hD1⟩ := hBX
        rw [ht] at hP1
        obtain ⟨hP, hD⟩ := va_join (wr := []) (w1 := [(ox, .inr (2, [.int st, .int lf, .int ao, .ref ow, .ref og, .ref oc, .ref od, .int bad])), (ow, .inr (0, [.int lf, .ref oaw, .int wr.2])), (oaw, .inl (cIw, 600, .inl wr.1)), (og, .inr (1, [.ref ow, .int st, .int sib, .int tw.1, .int tw.2.1, .int tw.2.2.1, .int tw.2.2.2])), (oc, .inr (0, [.int lf, .ref oac, .int cr.2])), (oac, .inl (cIc, 600, .inl cr.1)), (od, .inr (1, [.ref oc, .int st, .int sib, .int tr.1, .int tr.2.1, .int tr.2.2.1, .int tr.2.2.2]))]) hP hD [0, 1, 2, 3, 4, 5, 6] [] rfl rfl (by decide) (by decide) hk1 hFc hP1 hD1
        have hP9 := hP.sub (ws' := [(ox, .inr (2, [.int st, .int lf, .int ao, .ref ow, .ref og, .ref oc, .ref od, .int bad])), (ow, .inr (0, [.int lf, .ref oaw, .int wr.2])), (oaw, .inl (cIw, 600, .inl wr.1)), (og, .inr (1, [.ref ow, .int st, .int sib, .int tw.1, .int tw.2.1, .int tw.2.2.1, .int tw.2.2.2])), (oc, .inr (0, [.int lf, .ref oac, .int cr.2])), (oac, .inl (cIc, 600, .inl cr.1)), (od, .inr (1, [.ref oc, .int st, .int sib, .int tr.1, .int tr.2.1, .int tr.2.2.1, .int tr.2.2.2]))]) [0, 1, 2, 3, 4, 5, 6] rfl
        have hD9 := hD.sub (ws' := [(ox, .inr (2, [.int st, .int lf, .int ao, .ref ow, .ref og, .ref oc, .ref od, .int bad])), (ow, .inr (0, [.int lf, .ref oaw, .int wr.2])), (oaw, .inl (cIw, 600, .inl wr.1)), (og, .inr (1, [.ref ow, .int st, .int sib, .int tw.1, .int tw.2.1, .int tw.2.2.1, .int tw.2.2.2])), (oc, .inr (0, [.int lf, .ref oac, .int cr.2])), (oac, .inl (cIc, 600, .inl cr.1)), (od, .inr (1, [.ref oc, .int st, .int sib, .int tr.1, .int tr.2.1, .int tr.2.2.1, .int tr.2.2.2]))]) [0, 1, 2, 3, 4, 5, 6] (by decide) rfl
        exact vx_out (fun x h => (hE x h).elim) hlocks hcell hcv hcl (fun t2 ht2 hvm2 => ⟨(), trivial, ⟨(plX2_feed_1 st lf ao sib wr tw cr tr bad p0 c_1 c_8 _ hw_1), by rw [ht2]; exact hP9, hD9⟩, hS.F ht2⟩) hS.2.2 (by omega) (by omega)
      obtain ⟨hP1, hD1⟩ := hB
      rw [ht] at hP1
      obtain ⟨hP, hD⟩ := va_join (wr := []) (w1 := [(ox, .inr (2, [.int st, .int lf, .int ao, .ref ow, .ref og, .ref oc, .ref od, .int bad])), (ow, .inr (0, [.int lf, .ref oaw, .int wr.2])), (oaw, .inl (cIw, 600, .inl wr.1)), (og, .inr (1, [.ref ow, .int st, .int sib, .int tw.1, .int tw.2.1, .int tw.2.2.1, .int tw.2.2.2])), (oc, .inr (0, [.int lf, .ref oac, .int cr.2])), (oac, .inl (cIc, 600, .inl cr.1)), (od, .inr (1, [.ref oc, .int st, .int sib, .int tr.1, .int tr.2.1, .int tr.2.2.1, .int tr.2.2.2]))]) hP hD [0, 1, 2, 3, 4, 5, 6] [] rfl rfl (by decide) (by decide) hk1 hFc hP1 hD1
      generalize H1 = H at hP hS ⊢
      have hP : va_P (dC, dI) vwCl [(ox, .inr (2, [.int st, .int lf, .int ao, .ref ow, .ref og, .ref oc, .ref od, .int bad])), (ow, .inr (0, [.int lf, .ref oaw, .int wr.2])), (oaw, .inl (cIw, 600, .inl wr.1)), (og, .inr (1, [.ref ow, .int st, .int sib, .int tw.1, .int tw.2.1, .int tw.2.2.1, .int tw.2.2.2])), (oc, .inr (0, [.int lf, .ref oac, .int cr.2])), (oac, .inl (cIc, 600, .inl cr.1)), (od, .inr (1, [.ref oc, .int st, .int sib, .int tr.1, .int tr.2.1, .int tr.2.2.1, .int tr.2.2.2]))] H := hP
      have hD : va_D A [(ox, .inr (2, [.int st, .int lf, .int ao, .ref ow, .ref og, .ref oc, .ref od, .int bad])), (ow, .inr (0, [.int lf, .ref oaw, .int wr.2])), (oaw, .inl (cIw, 600, .inl wr.1)), (og, .inr (1, [.ref ow, .int st, .int sib, .int tw.1, .int tw.2.1, .int tw.2.2.1, .int tw.2.2.2])), (oc, .inr (0, [.int lf, .ref oac, .int cr.2])), (oac, .inl (cIc, 600, .inl cr.1)), (od, .inr (1, [.ref oc, .int st, .int sib, .int tr.1, .int tr.2.1, .int tr.2.2.1, .int tr.2.2.2]))] := hD
      refine W.widen (k := 1) (n := 6) (by omega) (by omega) ?_
      refine lv_aload_n hx hb dX2_feed_26 rfl (lv_at hl 0 rfl) ?_
      refine va_get (D := (dC, dI)) (ci := 2) (v := .ref oc) (C := RX2) (T := TX2) (N := 8) hx hb hts inGX2 hown hK hP 0 rfl rfl 5 (by decide) (hts _ wd103) (fun _ h9 => h9) rfl dX2_feed_27 ?_
      refine lv_iload_n hx hb dX2_feed_30 rfl (lv_at hl 1 rfl) ?_
      have hPc := hP.sub (ws' := [(oc, .inr (0, [.int lf, .ref oac, .int cr.2])), (oac, .inl (cIc, 600, .inl cr.1))]) [4, 5] rfl
      have hKc := hK.sub (tys' := [(cIc, .int)]) [1] rfl
      have hDc := hD.sub (ws' := [(oc, .inr (0, [.int lf, .ref oac, .int cr.2])), (oac, .inl (cIc, 600, .inl cr.1))]) [4, 5] (by decide) rfl
      have hFc := va_free (wc := [(oc, .inr (0, [.int lf, .ref oac, .int cr.2])), (oac, .inl (cIc, 600, .inl cr.1))]) hD hS hA [4, 5] rfl
      refine va_callv (va_runV (As := [.int p0]) (rest := []) ⟨hx, hb, hml, hown, hts⟩ (mX0_addByte l dC dI cIc oc oac H.size lf cr p0) (cwV 1 hts (gV wd334 wd335 wd336 wd28 wd337) rfl rfl rfl (by decide +kernel) ⟨Nat.le_of_ble_eq_true rfl, Nat.le_of_ble_eq_true rfl⟩) ⟨fb_rw, va_recv hKc hPc (ci := 0) (q0 := 0) rfl rfl, pre_rw hPc hKc hDc hZ⟩ rfl rfl hl.1 rfl (lv_room (Nat.le_of_ble_eq_true rfl)) dX2_feed_31 ⟨Nat.le_of_ble_eq_true rfl, Nat.le_of_ble_eq_true rfl⟩) hS (fun q _ h => hFc q h) hFc (fun u_5 t H1 locs ht hvm hw_4 hB hz1 hk1 hS => ?_)
      obtain ⟨hP1, hD1⟩ := hB
      rw [ht] at hP1
      obtain ⟨hP, hD⟩ := va_join (wr := [(ox, .inr (2, [.int st, .int lf, .int ao, .ref ow, .ref og, .ref oc, .ref od, .int bad])), (ow, .inr (0, [.int lf, .ref oaw, .int wr.2])), (oaw, .inl (cIw, 600, .inl wr.1)), (og, .inr (1, [.ref ow, .int st, .int sib, .int tw.1, .int tw.2.1, .int tw.2.2.1, .int tw.2.2.2])), (od, .inr (1, [.ref oc, .int st, .int sib, .int tr.1, .int tr.2.1, .int tr.2.2.1, .int tr.2.2.2]))]) (w1 := [(oc, .inr (0, [.int lf, .ref oac, .int u_5.2])), (oac, .inl (cIc, 600, .inl u_5.1))]) hP hD [4, 5] [0, 1, 2, 3, 6] rfl rfl (by decide) (by decide) hk1 hFc hP1 hD1
      generalize H1 = H at hP hS ⊢
      have hP : va_P (dC, dI) vwCl [(ox, .inr (2, [.int st, .int lf, .int ao, .ref ow, .ref og, .ref oc, .ref od, .int bad])), (ow, .inr (0, [.int lf, .ref oaw, .int wr.2])), (oaw, .inl (cIw, 600, .inl wr.1)), (og, .inr (1, [.ref ow, .int st, .int sib, .int tw.1, .int tw.2.1, .int tw.2.2.1, .int tw.2.2.2])), (od, .inr (1, [.ref oc, .int st, .int sib, .int tr.1, .int tr.2.1, .int tr.2.2.1, .int tr.2.2.2])), (oc, .inr (0, [.int lf, .ref oac, .int u_5.2])), (oac, .inl (cIc, 600, .inl u_5.1))] H := hP
      have hD : va_D A [(ox, .inr (2, [.int st, .int lf, .int ao, .ref ow, .ref og, .ref oc, .ref od, .int bad])), (ow, .inr (0, [.int lf, .ref oaw, .int wr.2])), (oaw, .inl (cIw, 600, .inl wr.1)), (og, .inr (1, [.ref ow, .int st, .int sib, .int tw.1, .int tw.2.1, .int tw.2.2.1, .int tw.2.2.2])), (od, .inr (1, [.ref oc, .int st, .int sib, .int tr.1, .int tr.2.1, .int tr.2.2.1, .int tr.2.2.2])), (oc, .inr (0, [.int lf, .ref oac, .int u_5.2])), (oac, .inl (cIc, 600, .inl u_5.1))] := hD
      refine lv_aload_n hx hb dX2_feed_34 rfl (lv_at hl 0 rfl) ?_
      refine va_get (D := (dC, dI)) (ci := 2) (v := .ref oc) (C := RX2) (T := TX2) (N := 8) hx hb hts inGX2 hown hK hP 0 rfl rfl 5 (by decide) (hts _ wd103) (fun _ h9 => h9) rfl dX2_feed_35 ?_
      refine va_getN (D := (dC, dI)) (ci := 0) (v := .int u_5.2) (C := RX0) (T := TX0) (N := 3) hx hb hts inGX0 hown hK hP 5 rfl rfl 2 (by decide) (hZ.use zw1 rfl) (fun _ h9 => h9) rfl dX2_feed_38 ?_
      have hP9 := hP.sub (ws' := [(ox, .inr (2, [.int st, .int lf, .int ao, .ref ow, .ref og, .ref oc, .ref od, .int bad])), (ow, .inr (0, [.int lf, .ref oaw, .int wr.2])), (oaw, .inl (cIw, 600, .inl wr.1)), (og, .inr (1, [.ref ow, .int st, .int sib, .int tw.1, .int tw.2.1, .int tw.2.2.1, .int tw.2.2.2])), (oc, .inr (0, [.int lf, .ref oac, .int u_5.2])), (oac, .inl (cIc, 600, .inl u_5.1)), (od, .inr (1, [.ref oc, .int st, .int sib, .int tr.1, .int tr.2.1, .int tr.2.2.1, .int tr.2.2.2]))]) [0, 1, 2, 3, 5, 6, 4] rfl
      have hD9 := hD.sub (ws' := [(ox, .inr (2, [.int st, .int lf, .int ao, .ref ow, .ref og, .ref oc, .ref od, .int bad])), (ow, .inr (0, [.int lf, .ref oaw, .int wr.2])), (oaw, .inl (cIw, 600, .inl wr.1)), (og, .inr (1, [.ref ow, .int st, .int sib, .int tw.1, .int tw.2.1, .int tw.2.2.1, .int tw.2.2.2])), (oc, .inr (0, [.int lf, .ref oac, .int u_5.2])), (oac, .inl (cIc, 600, .inl u_5.1)), (od, .inr (1, [.ref oc, .int st, .int sib, .int tr.1, .int tr.2.1, .int tr.2.2.1, .int tr.2.2.2]))]) [0, 1, 2, 3, 5, 6, 4] (by decide) rfl
      refine vx_ret ?_
      refine W.widen (k := 1) (n := 6) (by omega) (by omega) ?_
      exact W.iret (v := u_5.2) hx hb hr (fun t ht hW => ⟨⟨u_5.2, u_5, rfl, (plX2_feed_2 st lf ao sib wr tw cr tr bad p0 c_1 c_8 hw_1 _ hw_4), by rw [ht]; exact hP9, hD9⟩, hS.F ht⟩) hS.2.2 dX2_feed_41
    · obtain ⟨sa, hstr⟩ := hZ.2 (120, "a byte is 0 .. 255") (by decide)
      exact vx_throwS (own := RX2) (cls := "java/lang/IllegalArgumentException") (names := ["java/lang/RuntimeException", "java/lang/Exception"]) hx hb hlt hown (by decide +kernel) (by decide +kernel) (hts _ wd214) (hts _ wd34) hstr (fun w h => (xat_90 w h).elim (hts w) (fun q => hZ.use q.1 q.2)) xgood_90 hQ.1 hQ.2 hS (hl.1.trans hml.symm) dX2_feed_11 dX2_feed_14 dX2_feed_15 dX2_feed_17 dX2_feed_20 (fun x h => (hE x h).elim) (Nat.le_of_ble_eq_true rfl) (Nat.le_of_ble_eq_true rfl) (Nat.le_of_ble_eq_true rfl) (Nat.le_of_ble_eq_true rfl) hlocks (fun t hvm hz hk => ⟨(), trivial, ⟨(plX2_feed_3 st lf ao sib wr tw cr tr bad p0 c_1 c_8), (x_at hS hP hz hk).1, hD⟩, (x_at hS hP hz hk).2⟩) hS.2.2 (by omega) (by omega)
def LX2_pass_61 (st : Int32) (lf : Int32) (ao : Int32) (sib : Int32) : Nat → Rw → Tk → Rw → Tk → Int32 → Int32 → Int32 → Int32 → Int32 → Int32 → String ⊕ (Int32 × Rw)
  | 0, wr, tw, cr, tr, bad, p0, p1, wh, mn, i => Sum.inr (0, cr)
  | n + 1, wr, tw, cr, tr, bad, p0, p1, wh, mn, i =>
    if mn ≤ i then
      Sum.inr (mn, cr)
    else
      let r_1 := FX0_byteOf lf wr (p0 + i)
      let u_4 := FX0_addByte lf cr r_1
      let i_5 := i + 1
      LX2_pass_61 st lf ao sib n wr tw u_4 tr bad p0 p1 wh mn i_5
def FX2_pass (st : Int32) (lf : Int32) (ao : Int32) (sib : Int32) (wr : Rw) (tw : Tk) (cr : Rw) (tr : Tk) (bad : Int32) (p0 : Int32) (p1 : Int32) : String ⊕ (Int32 × Rw) :=
  let x_1 := tw.1 >>> (3 &&& 31)
  if p0 < 0 then
    Sum.inl "java/lang/IndexOutOfBoundsException"
  else
    if p0 < x_1 then
      if 0 ≤ p1 then
        let x_2 := if x_1 - p0 < p1 then x_1 - p0 else p1
        xbind (FX2_refuseMoreBytes st lf ao sib wr tw cr tr bad x_2) (fun zhw_3 =>
          LX2_pass_61 st lf ao sib (fz 0 x_2) wr tw cr tr bad p0 p1 x_1 x_2 0)
      else
        Sum.inl "java/lang/IllegalArgumentException"
    else
      Sum.inl "java/lang/IndexOutOfBoundsException"
set_option maxRecDepth 100000 in
theorem plX2_pass_l61_0 (st : Int32) (lf : Int32) (ao : Int32) (sib : Int32) (n : Nat) (wr : Rw) (tw : Tk) (cr : Rw) (tr : Tk) (bad : Int32) (p0 : Int32) (p1 : Int32) (wh : Int32) (mn : Int32) (i : Int32) (c_65 : mn ≤ i) : Sum.inr (mn, cr) = LX2_pass_61 st lf ao sib (n + 1) wr tw cr tr bad p0 p1 wh mn i := by
  exact (if_pos c_65).symm
set_option maxRecDepth 100000 in
theorem plX2_pass_l61_1 (st : Int32) (lf : Int32) (ao : Int32) (sib : Int32) (n : Nat) (wr : Rw) (tw : Tk) (cr : Rw) (tr : Tk) (bad : Int32) (p0 : Int32) (p1 : Int32) (wh : Int32) (mn : Int32) (i : Int32) (c_65 : ¬ (mn ≤ i)) (r_1 : Int32) (hw_2 : r_1 = FX0_byteOf lf wr (p0 + i)) (u_4 : Rw) (hw_3 : u_4 = FX0_addByte lf cr r_1) (i_5 : Int32) (ei_5 : i_5 = i + 1) : LX2_pass_61 st lf ao sib n wr tw u_4 tr bad p0 p1 wh mn i_5 = LX2_pass_61 st lf ao sib (n + 1) wr tw cr tr bad p0 p1 wh mn i := by
  subst hw_2
  subst hw_3
  subst ei_5
  exact (if_neg c_65).symm
set_option maxRecDepth 100000 in
theorem plX2_pass_0 (st : Int32) (lf : Int32) (ao : Int32) (sib : Int32) (wr : Rw) (tw : Tk) (cr : Rw) (tr : Tk) (bad : Int32) (p0 : Int32) (p1 : Int32) (x_1 : Int32) (ex_1 : x_1 = tw.1 >>> (3 &&& 31)) (c_11 : p0 < 0) : Sum.inl "java/lang/IndexOutOfBoundsException" = FX2_pass st lf ao sib wr tw cr tr bad p0 p1 := by
  subst ex_1
  exact (if_pos c_11).symm
set_option maxRecDepth 100000 in
theorem plX2_pass_1 (st : Int32) (lf : Int32) (ao : Int32) (sib : Int32) (wr : Rw) (tw : Tk) (cr : Rw) (tr : Tk) (bad : Int32) (p0 : Int32) (p1 : Int32) (x_1 : Int32) (ex_1 : x_1 = tw.1 >>> (3 &&& 31)) (c_11 : ¬ (p0 < 0)) (c_16 : p0 < x_1) (c_30 : 0 ≤ p1) (x_2 : Int32) (ex_2 : x_2 = if x_1 - p0 < p1 then x_1 - p0 else p1) (E_5 : String) (hw_3 : Sum.inl E_5 = FX2_refuseMoreBytes st lf ao sib wr tw cr tr bad x_2) : Sum.inl E_5 = FX2_pass st lf ao sib wr tw cr tr bad p0 p1 := by
  subst ex_1
  subst ex_2
  refine Eq.symm ?_
  refine (if_neg c_11).trans ?_
  refine (if_pos c_16).trans ?_
  refine (if_pos c_30).trans ?_
  refine (xb_inl hw_3).trans ?_
  exact rfl
set_option maxRecDepth 100000 in
theorem plX2_pass_2 (st : Int32) (lf : Int32) (ao : Int32) (sib : Int32) (wr : Rw) (tw : Tk) (cr : Rw) (tr : Tk) (bad : Int32) (p0 : Int32) (p1 : Int32) (x_1 : Int32) (ex_1 : x_1 = tw.1 >>> (3 &&& 31)) (c_11 : ¬ (p0 < 0)) (c_16 : p0 < x_1) (c_30 : 0 ≤ p1) (x_2 : Int32) (ex_2 : x_2 = if x_1 - p0 < p1 then x_1 - p0 else p1) (hw_3 : Sum.inr () = FX2_refuseMoreBytes st lf ao sib wr tw cr tr bad x_2) : LX2_pass_61 st lf ao sib (fz 0 x_2) wr tw cr tr bad p0 p1 x_1 x_2 0 = FX2_pass st lf ao sib wr tw cr tr bad p0 p1 := by
  subst ex_1
  subst ex_2
  refine Eq.symm ?_
  refine (if_neg c_11).trans ?_
  refine (if_pos c_16).trans ?_
  refine (if_pos c_30).trans ?_
  refine (xb_inr hw_3).trans ?_
  exact rfl
set_option maxRecDepth 100000 in
theorem plX2_pass_3 (st : Int32) (lf : Int32) (ao : Int32) (sib : Int32) (wr : Rw) (tw : Tk) (cr : Rw) (tr : Tk) (bad : Int32) (p0 : Int32) (p1 : Int32) (x_1 : Int32) (ex_1 : x_1 = tw.1 >>> (3 &&& 31)) (c_11 : ¬ (p0 < 0)) (c_16 : p0 < x_1) (c_30 : ¬ (0 ≤ p1)) : Sum.inl "java/lang/IllegalArgumentException" = FX2_pass st lf ao sib wr tw cr tr bad p0 p1 := by
  subst ex_1
  exact (((if_neg c_11).trans (if_pos c_16)).trans (if_neg c_30)).symm
set_option maxRecDepth 100000 in
theorem plX2_pass_4 (st : Int32) (lf : Int32) (ao : Int32) (sib : Int32) (wr : Rw) (tw : Tk) (cr : Rw) (tr : Tk) (bad : Int32) (p0 : Int32) (p1 : Int32) (x_1 : Int32) (ex_1 : x_1 = tw.1 >>> (3 &&& 31)) (c_11 : ¬ (p0 < 0)) (c_16 : ¬ (p0 < x_1)) : Sum.inl "java/lang/IndexOutOfBoundsException" = FX2_pass st lf ao sib wr tw cr tr bad p0 p1 := by
  subst ex_1
  exact ((if_neg c_11).trans (if_neg c_16)).symm
set_option maxHeartbeats 4000000 in
set_option maxRecDepth 100000 in
theorem kX2_pass_61 {p : Program} {l : Launch} {e : Env} {s : State} {m : MethodId} {args : Array Value} {below : List Frame} {meth : Method} {c : Code} {dC : Nat → ClassId} {dI : Nat → Nat → Nat} {cIw cIc : ClassId} {ox ow oaw og oc oac od : Nat} {st : Int32} {lf : Int32} {ao : Int32} {sib : Int32} {XC : String → State → State → Prop} {z : String ⊕ (Int32 × Rw)} {A : Nat → Prop} (hx : p.tables.exec = Jvm.exec) (hb : c.code = cX2_pass) (hr : meth.sig.returnType = (some .int)) (hml : c.maxLocals = 6) (hown : s.vm.findClass RX2 = some m.cls) (hts : ∀ w ∈ G, w.before args s = true) (hlocks : meth.locks = false) (hA : ∀ q : Nat, s.heap.size ≤ q → A q) (hZ : zOk s) (hK : va_K (dC, dI) vwCl [(cIw, .int), (cIc, .int)] s) : ∀ (n : Nat) (wr : Rw) (tw : Tk) (cr : Rw) (tr : Tk) (bad : Int32) (p0 : Int32) (p1 : Int32) (wh : Int32) (mn : Int32) (i : Int32), (fuel n i mn) → LX2_pass_61 st lf ao sib n wr tw cr tr bad p0 p1 wh mn i = z → ∀ (H : Heap) (locs : List Loc), va_P (dC, dI) vwCl [(ox, .inr (2, [.int st, .int lf, .int ao, .ref ow, .ref og, .ref oc, .ref od, .int bad])), (ow, .inr (0, [.int lf, .ref oaw, .int wr.2])), (oaw, .inl (cIw, 600, .inl wr.1)), (og, .inr (1, [.ref ow, .int st, .int sib, .int tw.1, .int tw.2.1, .int tw.2.2.1, .int tw.2.2.2])), (oc, .inr (0, [.int lf, .ref oac, .int cr.2])), (oac, .inl (cIc, 600, .inl cr.1)), (od, .inr (1, [.ref oc, .int st, .int sib, .int tr.1, .int tr.2.1, .int tr.2.2.1, .int tr.2.2.2]))] H → va_D A [(ox, .inr (2, [.int st, .int lf, .int ao, .ref ow, .ref og, .ref oc, .ref od, .int bad])), (ow, .inr (0, [.int lf, .ref oaw, .int wr.2])), (oaw, .inl (cIw, 600, .inl wr.1)), (og, .inr (1, [.ref ow, .int st, .int sib, .int tw.1, .int tw.2.1, .int tw.2.2.1, .int tw.2.2.2])), (oc, .inr (0, [.int lf, .ref oac, .int cr.2])), (oac, .inl (cIc, 600, .inl cr.1)), (od, .inr (1, [.ref oc, .int st, .int sib, .int tr.1, .int tr.2.1, .int tr.2.2.1, .int tr.2.2.2]))] → va_S A s.heap H locs → ∀ (ls : Array Slot), lv_has ls 6 [(0, .ref ox), (1, .int p0), (2, .int p1), (3, .int wh), (4, .int mn), (5, .int i)] → W p l e (headSpec (Cond.code yX2_pass cX2_pass 6 (some .int) :: G) ({ frames := 7, cells := 1, slots := 6, locals := 103 } : Room)).room s m args below meth c H locs 1 6 (vx_MQ below (va_Qi (fun (r : Int32) (u : Rw) => Sum.inr (r, u) = z) (fun (u : Rw) (t : State) => va_P (dC, dI) vwCl [(ox, .inr (2, [.int st, .int lf, .int ao, .ref ow, .ref og, .ref oc, .ref od, .int bad])), (ow, .inr (0, [.int lf, .ref oaw, .int wr.2])), (oaw, .inl (cIw, 600, .inl wr.1)), (og, .inr (1, [.ref ow, .int st, .int sib, .int tw.1, .int tw.2.1, .int tw.2.2.1, .int tw.2.2.2])), (oc, .inr (0, [.int lf, .ref oac, .int u.2])), (oac, .inl (cIc, 600, .inl u.1)), (od, .inr (1, [.ref oc, .int st, .int sib, .int tr.1, .int tr.2.1, .int tr.2.2.1, .int tr.2.2.2]))] t.heap ∧ va_D A [(ox, .inr (2, [.int st, .int lf, .int ao, .ref ow, .ref og, .ref oc, .ref od, .int bad])), (ow, .inr (0, [.int lf, .ref oaw, .int wr.2])), (oaw, .inl (cIw, 600, .inl wr.1)), (og, .inr (1, [.ref ow, .int st, .int sib, .int tw.1, .int tw.2.1, .int tw.2.2.1, .int tw.2.2.2])), (oc, .inr (0, [.int lf, .ref oac, .int u.2])), (oac, .inl (cIc, 600, .inl u.1)), (od, .inr (1, [.ref oc, .int st, .int sib, .int tr.1, .int tr.2.1, .int tr.2.2.1, .int tr.2.2.2]))]) A) XC args s 1 6 A) (F0 m 61 ls []) := by
  intro n
  induction n with
  | zero =>
    intro wr tw cr tr bad p0 p1 wh mn i hf hz
    exact absurd hf.1 (Nat.lt_irrefl 0)
  | succ n ih =>
    intro wr tw cr tr bad p0 p1 wh mn i hf hz H locs hP hD hS ls hl
    refine lv_iload hx hb dX2_pass_61 (lv_at hl 5 rfl) ?_
    refine lv_iload hx hb dX2_pass_63 (lv_at hl 4 rfl) ?_
    refine lv_icmp_ge (tgt := 92) hx hb dX2_pass_65 (by decide) (fun c_65 => ?_) (fun c_65 => ?_)
    · refine lv_iload hx hb dX2_pass_92 (lv_at hl 4 rfl) ?_
      have hP9 := hP.sub (ws' := [(ox, .inr (2, [.int st, .int lf, .int ao, .ref ow, .ref og, .ref oc, .ref od, .int bad])), (ow, .inr (0, [.int lf, .ref oaw, .int wr.2])), (oaw, .inl (cIw, 600, .inl wr.1)), (og, .inr (1, [.ref ow, .int st, .int sib, .int tw.1, .int tw.2.1, .int tw.2.2.1, .int tw.2.2.2])), (oc, .inr (0, [.int lf, .ref oac, .int cr.2])), (oac, .inl (cIc, 600, .inl cr.1)), (od, .inr (1, [.ref oc, .int st, .int sib, .int tr.1, .int tr.2.1, .int tr.2.2.1, .int tr.2.2.2]))]) [0, 1, 2, 3, 4, 5, 6] rfl
      have hD9 := hD.sub (ws' := [(ox, .inr (2, [.int st, .int lf, .int ao, .ref ow, .ref og, .ref oc, .ref od, .int bad])), (ow, .inr (0, [.int lf, .ref oaw, .int wr.2])), (oaw, .inl (cIw, 600, .inl wr.1)), (og, .inr (1, [.ref ow, .int st, .int sib, .int tw.1, .int tw.2.1, .int tw.2.2.1, .int tw.2.2.2])), (oc, .inr (0, [.int lf, .ref oac, .int cr.2])), (oac, .inl (cIc, 600, .inl cr.1)), (od, .inr (1, [.ref oc, .int st, .int sib, .int tr.1, .int tr.2.1, .int tr.2.2.1, .int tr.2.2.2]))]) [0, 1, 2, 3, 4, 5, 6] (by decide) rfl
      refine vx_ret ?_
      refine W.widen (k := 1) (n := 6) (by omega) (by omega) ?_
      exact W.iret (v := mn) hx hb hr (fun t ht hW => ⟨⟨mn, cr, rfl, ((plX2_pass_l61_0 st lf ao sib n wr tw cr tr bad p0 p1 wh mn i c_65).trans hz), by rw [ht]; exact hP9, hD9⟩, hS.F ht⟩) hS.2.2 dX2_pass_94
    · refine lv_aload_n hx hb dX2_pass_68 rfl (lv_at hl 0 rfl) ?_
      refine va_get (D := (dC, dI)) (ci := 2) (v := .ref oc) (C := RX2) (T := TX2) (N := 8) hx hb hts inGX2 hown hK hP 0 rfl rfl 5 (by decide) (hts _ wd103) (fun _ h9 => h9) rfl dX2_pass_69 ?_
      refine lv_aload_n hx hb dX2_pass_72 rfl (lv_at hl 0 rfl) ?_
      refine va_get (D := (dC, dI)) (ci := 2) (v := .ref ow) (C := RX2) (T := TX2) (N := 8) hx hb hts inGX2 hown hK hP 0 rfl rfl 3 (by decide) (hts _ wd101) (fun _ h9 => h9) rfl dX2_pass_73 ?_
      refine lv_iload_n hx hb dX2_pass_76 rfl (lv_at hl 1 rfl) ?_
      refine lv_iload hx hb dX2_pass_77 (lv_at hl 5 rfl) ?_
      refine lv_iadd hx hb dX2_pass_79 ?_
      have hPc := hP.sub (ws' := [(ow, .inr (0, [.int lf, .ref oaw, .int wr.2])), (oaw, .inl (cIw, 600, .inl wr.1))]) [1, 2] rfl
      have hKc := hK.sub (tys' := [(cIw, .int)]) [0] rfl
      refine vp_callSi (va_Run.run (va_runV (As := [.int (p0 + i)]) (rest := [.ref oc]) ⟨hx, hb, hml, hown, hts⟩ (mX0_byteOf l dC dI cIw ow oaw lf wr (p0 + i)) (cwV 1 hts (gV wd175 wd139 wd140 wd28 wd141) rfl rfl rfl (by decide +kernel) ⟨Nat.le_of_ble_eq_true rfl, Nat.le_of_ble_eq_true rfl⟩) ⟨fb_ro, va_recv hKc hPc (ci := 0) (q0 := 0) rfl rfl, pre_ro hPc hKc hZ⟩ rfl rfl hl.1 rfl (lv_room (Nat.le_of_ble_eq_true rfl)) dX2_pass_80 ⟨Nat.le_of_ble_eq_true rfl, Nat.le_of_ble_eq_true rfl⟩)) (fun r_1 hw_2 => ?_)
      have hPc := hP.sub (ws' := [(oc, .inr (0, [.int lf, .ref oac, .int cr.2])), (oac, .inl (cIc, 600, .inl cr.1))]) [4, 5] rfl
      have hKc := hK.sub (tys' := [(cIc, .int)]) [1] rfl
      have hDc := hD.sub (ws' := [(oc, .inr (0, [.int lf, .ref oac, .int cr.2])), (oac, .inl (cIc, 600, .inl cr.1))]) [4, 5] (by decide) rfl
      have hFc := va_free (wc := [(oc, .inr (0, [.int lf, .ref oac, .int cr.2])), (oac, .inl (cIc, 600, .inl cr.1))]) hD hS hA [4, 5] rfl
      refine va_callv (va_runV (As := [.int r_1]) (rest := []) ⟨hx, hb, hml, hown, hts⟩ (mX0_addByte l dC dI cIc oc oac H.size lf cr r_1) (cwV 1 hts (gV wd334 wd335 wd336 wd28 wd337) rfl rfl rfl (by decide +kernel) ⟨Nat.le_of_ble_eq_true rfl, Nat.le_of_ble_eq_true rfl⟩) ⟨fb_rw, va_recv hKc hPc (ci := 0) (q0 := 0) rfl rfl, pre_rw hPc hKc hDc hZ⟩ rfl rfl hl.1 rfl (lv_room (Nat.le_of_ble_eq_true rfl)) dX2_pass_83 ⟨Nat.le_of_ble_eq_true rfl, Nat.le_of_ble_eq_true rfl⟩) hS (fun q _ h => hFc q h) hFc (fun u_4 t H1 locs ht hvm hw_3 hB hz1 hk1 hS => ?_)
      obtain ⟨hP1, hD1⟩ := hB
      rw [ht] at hP1
      obtain ⟨hP, hD⟩ := va_join (wr := [(ox, .inr (2, [.int st, .int lf, .int ao, .ref ow, .ref og, .ref oc, .ref od, .int bad])), (ow, .inr (0, [.int lf, .ref oaw, .int wr.2])), (oaw, .inl (cIw, 600, .inl wr.1)), (og, .inr (1, [.ref ow, .int st, .int sib, .int tw.1, .int tw.2.1, .int tw.2.2.1, .int tw.2.2.2])), (od, .inr (1, [.ref oc, .int st, .int sib, .int tr.1, .int tr.2.1, .int tr.2.2.1, .int tr.2.2.2]))]) (w1 := [(oc, .inr (0, [.int lf, .ref oac, .int u_4.2])), (oac, .inl (cIc, 600, .inl u_4.1))]) hP hD [4, 5] [0, 1, 2, 3, 6] rfl rfl (by decide) (by decide) hk1 hFc hP1 hD1
      generalize H1 = H at hP hS ⊢
      have hP : va_P (dC, dI) vwCl [(ox, .inr (2, [.int st, .int lf, .int ao, .ref ow, .ref og, .ref oc, .ref od, .int bad])), (ow, .inr (0, [.int lf, .ref oaw, .int wr.2])), (oaw, .inl (cIw, 600, .inl wr.1)), (og, .inr (1, [.ref ow, .int st, .int sib, .int tw.1, .int tw.2.1, .int tw.2.2.1, .int tw.2.2.2])), (od, .inr (1, [.ref oc, .int st, .int sib, .int tr.1, .int tr.2.1, .int tr.2.2.1, .int tr.2.2.2])), (oc, .inr (0, [.int lf, .ref oac, .int u_4.2])), (oac, .inl (cIc, 600, .inl u_4.1))] H := hP
      have hD : va_D A [(ox, .inr (2, [.int st, .int lf, .int ao, .ref ow, .ref og, .ref oc, .ref od, .int bad])), (ow, .inr (0, [.int lf, .ref oaw, .int wr.2])), (oaw, .inl (cIw, 600, .inl wr.1)), (og, .inr (1, [.ref ow, .int st, .int sib, .int tw.1, .int tw.2.1, .int tw.2.2.1, .int tw.2.2.2])), (od, .inr (1, [.ref oc, .int st, .int sib, .int tr.1, .int tr.2.1, .int tr.2.2.1, .int tr.2.2.2])), (oc, .inr (0, [.int lf, .ref oac, .int u_4.2])), (oac, .inl (cIc, 600, .inl u_4.1))] := hD
      obtain ⟨i_5, ei_5⟩ : ∃ y : Int32, y = i + 1 := ⟨_, rfl⟩
      refine lv_iinc (v := i_5) (lv' := [(5, .int i_5), (0, .ref ox), (1, .int p0), (2, .int p1), (3, .int wh), (4, .int mn)]) hx hb dX2_pass_86 hl (k := 5) rfl (by rw [ei_5]; rfl) (by decide) rfl (fun ls hl => ?_)
      refine lv_goto (tgt := 61) hx hb dX2_pass_89 (by decide) ?_
      exact ih wr tw u_4 tr bad p0 p1 wh mn i_5 (fuel_step2 hf (nle_lt c_65) (by assumption)) ((plX2_pass_l61_1 st lf ao sib n wr tw cr tr bad p0 p1 wh mn i c_65 _ hw_2 _ hw_3 _ ei_5).trans hz) _ _ (hP.sub (ws' := [(ox, .inr (2, [.int st, .int lf, .int ao, .ref ow, .ref og, .ref oc, .ref od, .int bad])), (ow, .inr (0, [.int lf, .ref oaw, .int wr.2])), (oaw, .inl (cIw, 600, .inl wr.1)), (og, .inr (1, [.ref ow, .int st, .int sib, .int tw.1, .int tw.2.1, .int tw.2.2.1, .int tw.2.2.2])), (oc, .inr (0, [.int lf, .ref oac, .int u_4.2])), (oac, .inl (cIc, 600, .inl u_4.1)), (od, .inr (1, [.ref oc, .int st, .int sib, .int tr.1, .int tr.2.1, .int tr.2.2.1, .int tr.2.2.2]))]) [0, 1, 2, 3, 5, 6, 4] rfl) (hD.sub (ws' := [(ox, .inr (2, [.int st, .int lf, .int ao, .ref ow, .ref og, .ref oc, .ref od, .int bad])), (ow, .inr (0, [.int lf, .ref oaw, .int wr.2])), (oaw, .inl (cIw, 600, .inl wr.1)), (og, .inr (1, [.ref ow, .int st, .int sib, .int tw.1, .int tw.2.1, .int tw.2.2.1, .int tw.2.2.2])), (oc, .inr (0, [.int lf, .ref oac, .int u_4.2])), (oac, .inl (cIc, 600, .inl u_4.1)), (od, .inr (1, [.ref oc, .int st, .int sib, .int tr.1, .int tr.2.1, .int tr.2.2.1, .int tr.2.2.2]))]) [0, 1, 2, 3, 5, 6, 4] (by decide) rfl) hS ls (lv_sub hl [1, 2, 3, 4, 5, 0] rfl)
set_option maxHeartbeats 4000000 in
set_option maxRecDepth 100000 in
theorem mX2_pass (l : Launch) (hlt : l.stackTraces = false) (dC : Nat → ClassId) (dI : Nat → Nat → Nat) (cIw cIc : ClassId) (ox ow oaw og oc oac od : Nat) (sz : Nat) (st : Int32) (lf : Int32) (ao : Int32) (sib : Int32) (wr : Rw) (tw : Tk) (cr : Rw) (tr : Tk) (bad : Int32) (p0 : Int32) (p1 : Int32) : vx_Met l yX2_pass (Cond.code yX2_pass cX2_pass 6 (some .int) :: G) ({ frames := 7, cells := 1, slots := 6, locals := 103 } : Room) (va_Pc [.ref ox, .int p0, .int p1] (fun U => U.heap.size = sz ∧ va_P (dC, dI) vwCl [(ox, .inr (2, [.int st, .int lf, .int ao, .ref ow, .ref og, .ref oc, .ref od, .int bad])), (ow, .inr (0, [.int lf, .ref oaw, .int wr.2])), (oaw, .inl (cIw, 600, .inl wr.1)), (og, .inr (1, [.ref ow, .int st, .int sib, .int tw.1, .int tw.2.1, .int tw.2.2.1, .int tw.2.2.2])), (oc, .inr (0, [.int lf, .ref oac, .int cr.2])), (oac, .inl (cIc, 600, .inl cr.1)), (od, .inr (1, [.ref oc, .int st, .int sib, .int tr.1, .int tr.2.1, .int tr.2.2.1, .int tr.2.2.2]))] U.heap ∧ va_K (dC, dI) vwCl [(cIw, .int), (cIc, .int)] U ∧ va_D (fun _ => True) [(ox, .inr (2, [.int st, .int lf, .int ao, .ref ow, .ref og, .ref oc, .ref od, .int bad])), (ow, .inr (0, [.int lf, .ref oaw, .int wr.2])), (oaw, .inl (cIw, 600, .inl wr.1)), (og, .inr (1, [.ref ow, .int st, .int sib, .int tw.1, .int tw.2.1, .int tw.2.2.1, .int tw.2.2.2])), (oc, .inr (0, [.int lf, .ref oac, .int cr.2])), (oac, .inl (cIc, 600, .inl cr.1)), (od, .inr (1, [.ref oc, .int st, .int sib, .int tr.1, .int tr.2.1, .int tr.2.2.1, .int tr.2.2.2]))] ∧ zOk U ∧ zSt (va_A [(ox, .inr (2, [.int st, .int lf, .int ao, .ref ow, .ref og, .ref oc, .ref od, .int bad])), (ow, .inr (0, [.int lf, .ref oaw, .int wr.2])), (oaw, .inl (cIw, 600, .inl wr.1)), (og, .inr (1, [.ref ow, .int st, .int sib, .int tw.1, .int tw.2.1, .int tw.2.2.1, .int tw.2.2.2])), (oc, .inr (0, [.int lf, .ref oac, .int cr.2])), (oac, .inl (cIc, 600, .inl cr.1)), (od, .inr (1, [.ref oc, .int st, .int sib, .int tr.1, .int tr.2.1, .int tr.2.2.1, .int tr.2.2.2]))] sz) U U.heap)) (va_Qi (fun (r : Int32) (u : Rw) => Sum.inr (r, u) = (FX2_pass st lf ao sib wr tw cr tr bad p0 p1)) (fun (u : Rw) (t : State) => va_P (dC, dI) vwCl [(ox, .inr (2, [.int st, .int lf, .int ao, .ref ow, .ref og, .ref oc, .ref od, .int bad])), (ow, .inr (0, [.int lf, .ref oaw, .int wr.2])), (oaw, .inl (cIw, 600, .inl wr.1)), (og, .inr (1, [.ref ow, .int st, .int sib, .int tw.1, .int tw.2.1, .int tw.2.2.1, .int tw.2.2.2])), (oc, .inr (0, [.int lf, .ref oac, .int u.2])), (oac, .inl (cIc, 600, .inl u.1)), (od, .inr (1, [.ref oc, .int st, .int sib, .int tr.1, .int tr.2.1, .int tr.2.2.1, .int tr.2.2.2]))] t.heap ∧ va_D (va_A [(ox, .inr (2, [.int st, .int lf, .int ao, .ref ow, .ref og, .ref oc, .ref od, .int bad])), (ow, .inr (0, [.int lf, .ref oaw, .int wr.2])), (oaw, .inl (cIw, 600, .inl wr.1)), (og, .inr (1, [.ref ow, .int st, .int sib, .int tw.1, .int tw.2.1, .int tw.2.2.1, .int tw.2.2.2])), (oc, .inr (0, [.int lf, .ref oac, .int cr.2])), (oac, .inl (cIc, 600, .inl cr.1)), (od, .inr (1, [.ref oc, .int st, .int sib, .int tr.1, .int tr.2.1, .int tr.2.2.1, .int tr.2.2.2]))] sz) [(ox, .inr (2, [.int st, .int lf, .int ao, .ref ow, .ref og, .ref oc, .ref od, .int bad])), (ow, .inr (0, [.int lf, .ref oaw, .int wr.2])), (oaw, .inl (cIw, 600, .inl wr.1)), (og, .inr (1, [.ref ow, .int st, .int sib, .int tw.1, .int tw.2.1, .int tw.2.2.1, .int tw.2.2.2])), (oc, .inr (0, [.int lf, .ref oac, .int u.2])), (oac, .inl (cIc, 600, .inl u.1)), (od, .inr (1, [.ref oc, .int st, .int sib, .int tr.1, .int tr.2.1, .int tr.2.2.1, .int tr.2.2.2]))]) (va_A [(ox, .inr (2, [.int st, .int lf, .int ao, .ref ow, .ref og, .ref oc, .ref od, .int bad])), (ow, .inr (0, [.int lf, .ref oaw, .int wr.2])), (oaw, .inl (cIw, 600, .inl wr.1)), (og, .inr (1, [.ref ow, .int st, .int sib, .int tw.1, .int tw.2.1, .int tw.2.2.1, .int tw.2.2.2])), (oc, .inr (0, [.int lf, .ref oac, .int cr.2])), (oac, .inl (cIc, 600, .inl cr.1)), (od, .inr (1, [.ref oc, .int st, .int sib, .int tr.1, .int tr.2.1, .int tr.2.2.1, .int tr.2.2.2]))] sz)) (vx_X (fun (_ : Unit) => True) (fun E _ t => Sum.inl E = (FX2_pass st lf ao sib wr tw cr tr bad p0 p1) ∧ va_P (dC, dI) vwCl [(ox, .inr (2, [.int st, .int lf, .int ao, .ref ow, .ref og, .ref oc, .ref od, .int bad])), (ow, .inr (0, [.int lf, .ref oaw, .int wr.2])), (oaw, .inl (cIw, 600, .inl wr.1)), (og, .inr (1, [.ref ow, .int st, .int sib, .int tw.1, .int tw.2.1, .int tw.2.2.1, .int tw.2.2.2])), (oc, .inr (0, [.int lf, .ref oac, .int cr.2])), (oac, .inl (cIc, 600, .inl cr.1)), (od, .inr (1, [.ref oc, .int st, .int sib, .int tr.1, .int tr.2.1, .int tr.2.2.1, .int tr.2.2.2]))] t.heap ∧ va_D (va_A [(ox, .inr (2, [.int st, .int lf, .int ao, .ref ow, .ref og, .ref oc, .ref od, .int bad])), (ow, .inr (0, [.int lf, .ref oaw, .int wr.2])), (oaw, .inl (cIw, 600, .inl wr.1)), (og, .inr (1, [.ref ow, .int st, .int sib, .int tw.1, .int tw.2.1, .int tw.2.2.1, .int tw.2.2.2])), (oc, .inr (0, [.int lf, .ref oac, .int cr.2])), (oac, .inl (cIc, 600, .inl cr.1)), (od, .inr (1, [.ref oc, .int st, .int sib, .int tr.1, .int tr.2.1, .int tr.2.2.1, .int tr.2.2.2]))] sz) [(ox, .inr (2, [.int st, .int lf, .int ao, .ref ow, .ref og, .ref oc, .ref od, .int bad])), (ow, .inr (0, [.int lf, .ref oaw, .int wr.2])), (oaw, .inl (cIw, 600, .inl wr.1)), (og, .inr (1, [.ref ow, .int st, .int sib, .int tw.1, .int tw.2.1, .int tw.2.2.1, .int tw.2.2.2])), (oc, .inr (0, [.int lf, .ref oac, .int cr.2])), (oac, .inl (cIc, 600, .inl cr.1)), (od, .inr (1, [.ref oc, .int st, .int sib, .int tr.1, .int tr.2.1, .int tr.2.2.1, .int tr.2.2.2]))]) (va_A [(ox, .inr (2, [.int st, .int lf, .int ao, .ref ow, .ref og, .ref oc, .ref od, .int bad])), (ow, .inr (0, [.int lf, .ref oaw, .int wr.2])), (oaw, .inl (cIw, 600, .inl wr.1)), (og, .inr (1, [.ref ow, .int st, .int sib, .int tw.1, .int tw.2.1, .int tw.2.2.1, .int tw.2.2.2])), (oc, .inr (0, [.int lf, .ref oac, .int cr.2])), (oac, .inl (cIc, 600, .inl cr.1)), (od, .inr (1, [.ref oc, .int st, .int sib, .int tr.1, .int tr.2.1, .int tr.2.2.1, .int tr.2.2.2]))] sz)) 1 6 (va_A [(ox, .inr (2, [.int st, .int lf, .int ao, .ref ow, .ref og, .ref oc, .ref od, .int bad])), (ow, .inr (0, [.int lf, .ref oaw, .int wr.2])), (oaw, .inl (cIw, 600, .inl wr.1)), (og, .inr (1, [.ref ow, .int st, .int sib, .int tw.1, .int tw.2.1, .int tw.2.2.1, .int tw.2.2.2])), (oc, .inr (0, [.int lf, .ref oac, .int cr.2])), (oac, .inl (cIc, 600, .inl cr.1)), (od, .inr (1, [.ref oc, .int st, .int sib, .int tr.1, .int tr.2.1, .int tr.2.2.1, .int tr.2.2.2]))] sz) := by
  refine vx_ofW (cc := cX2_pass) (maxL := 6) (ret := (some .int)) (by decide) rfl ?_
  intro p e s m args below meth c s₁ B hml hE hv
  obtain ⟨rfl, hsz, hP, hK, hD0, hZ, hQ⟩ := hv
  have hx := B.exec
  have hb := B.bytes
  have hr := B.returns
  have hts : ∀ w ∈ G, w.before [.ref ox, .int p0, .int p1].toArray s = true := fun w h => atoms_spec (ws := (Cond.code yX2_pass cX2_pass 6 (some .int) :: G)) B.pre w (List.mem_cons_of_mem _ h)
  have hown : s.vm.findClass RX2 = some m.cls := findClass_of_methodNamed B.named
  have hlocks := B.notSynchronized
  subst hsz
  have hD := hD0.self (sz := s.heap.size)
  generalize hAe : va_A [(ox, .inr (2, [.int st, .int lf, .int ao, .ref ow, .ref og, .ref oc, .ref od, .int bad])), (ow, .inr (0, [.int lf, .ref oaw, .int wr.2])), (oaw, .inl (cIw, 600, .inl wr.1)), (og, .inr (1, [.ref ow, .int st, .int sib, .int tw.1, .int tw.2.1, .int tw.2.2.1, .int tw.2.2.2])), (oc, .inr (0, [.int lf, .ref oac, .int cr.2])), (oac, .inl (cIc, 600, .inl cr.1)), (od, .inr (1, [.ref oc, .int st, .int sib, .int tr.1, .int tr.2.1, .int tr.2.2.1, .int tr.2.2.2]))] s.heap.size = A at hD hQ ⊢
  have hA : ∀ q : Nat, s.heap.size ≤ q → A q := fun q h => by rw [← hAe]; exact Or.inr h
  have hS : va_S A s.heap s.heap [] := va_S.rf
  have hP : va_P (dC, dI) vwCl [(ox, .inr (2, [.int st, .int lf, .int ao, .ref ow, .ref og, .ref oc, .ref od, .int bad])), (ow, .inr (0, [.int lf, .ref oaw, .int wr.2])), (oaw, .inl (cIw, 600, .inl wr.1)), (og, .inr (1, [.ref ow, .int st, .int sib, .int tw.1, .int tw.2.1, .int tw.2.2.1, .int tw.2.2.2])), (oc, .inr (0, [.int lf, .ref oac, .int cr.2])), (oac, .inl (cIc, 600, .inl cr.1)), (od, .inr (1, [.ref oc, .int st, .int sib, .int tr.1, .int tr.2.1, .int tr.2.2.1, .int tr.2.2.2]))] s.heap := hP
  have hl := lv_entry ([.ref ox, .int p0, .int p1]) (n := 6) (Nat.le_of_ble_eq_true rfl)
  rw [lg_entry_eq]
  generalize (lg_sl ([.ref ox, .int p0, .int p1]) ++ List.replicate (6 - (lg_sl ([.ref ox, .int p0, .int p1])).length) Slot.unset).toArray = ls at hl ⊢
  have hl : lv_has ls 6 [(0, .ref ox), (1, .int p0), (2, .int p1)] := hl
  refine lv_aload_n hx hb dX2_pass_0 rfl (lv_at hl 0 rfl) ?_
  refine va_get (D := (dC, dI)) (ci := 2) (v := .ref og) (C := RX2) (T := TX2) (N := 8) hx hb hts inGX2 hown hK hP 0 rfl rfl 4 (by decide) (hts _ wd102) (fun _ h9 => h9) rfl dX2_pass_1 ?_
  refine va_getN (D := (dC, dI)) (ci := 1) (v := .int tw.1) (C := RX1) (T := TX1) (N := 7) hx hb hts inGX1 hown hK hP 3 rfl rfl 3 (by decide) (hZ.use zw2 rfl) (fun _ h9 => h9) rfl dX2_pass_4 ?_
  refine lv_iconst (v := 3) hx hb dX2_pass_7 (by decide) ?_
  refine lv_ishr hx hb dX2_pass_8 ?_
  refine lv_topi (fun x_1 ex_1 => ?_)
  refine lv_istore_n (lv' := [(3, .int x_1), (0, .ref ox), (1, .int p0), (2, .int p1)]) hx hb dX2_pass_9 rfl hl (by decide) rfl (fun ls hl => ?_)
  refine lv_iload_n hx hb dX2_pass_10 rfl (lv_at hl 2 rfl) ?_
  refine lv_if_lt (tgt := 19) hx hb dX2_pass_11 (by decide) (fun c_11 => ?_) (fun c_11 => ?_)
  · obtain ⟨sa, hstr⟩ := hZ.2 (125, "no such whole byte was written") (by decide)
    exact vx_throwS (own := RX2) (cls := "java/lang/IndexOutOfBoundsException") (names := ["java/lang/RuntimeException", "java/lang/Exception"]) hx hb hlt hown (by decide +kernel) (by decide +kernel) (hts _ wd346) (hts _ wd37) hstr (fun w h => (xat_103 w h).elim (hts w) (fun q => hZ.use q.1 q.2)) xgood_103 hQ.1 hQ.2 hS (hl.1.trans hml.symm) dX2_pass_19 dX2_pass_22 dX2_pass_23 dX2_pass_25 dX2_pass_28 (fun x h => (hE x h).elim) (Nat.le_of_ble_eq_true rfl) (Nat.le_of_ble_eq_true rfl) (Nat.le_of_ble_eq_true rfl) (Nat.le_of_ble_eq_true rfl) hlocks (fun t hvm hz hk => ⟨(), trivial, ⟨(plX2_pass_0 st lf ao sib wr tw cr tr bad p0 p1 _ ex_1 c_11), (x_at hS hP hz hk).1, hD⟩, (x_at hS hP hz hk).2⟩) hS.2.2 (by omega) (by omega)
  · refine lv_iload_n hx hb dX2_pass_14 rfl (lv_at hl 2 rfl) ?_
    refine lv_iload_n hx hb dX2_pass_15 rfl (lv_at hl 0 rfl) ?_
    refine lv_icmp_lt (tgt := 29) hx hb dX2_pass_16 (by decide) (fun c_16 => ?_) (fun c_16 => ?_)
    · refine lv_iload_n hx hb dX2_pass_29 rfl (lv_at hl 3 rfl) ?_
      refine lv_if_ge (tgt := 43) hx hb dX2_pass_30 (by decide) (fun c_30 => ?_) (fun c_30 => ?_)
      · refine lv_iload_n hx hb dX2_pass_43 rfl (lv_at hl 3 rfl) ?_
        refine lv_iload_n hx hb dX2_pass_44 rfl (lv_at hl 0 rfl) ?_
        refine lv_iload_n hx hb dX2_pass_45 rfl (lv_at hl 2 rfl) ?_
        refine lv_isub hx hb dX2_pass_46 ?_
        refine va_mmin hx hb (hml.trans hl.1.symm) hown (hts _ wd47) (hts _ wd48) (hts _ wd27) (hts _ wd49) (Nat.le_of_ble_eq_true rfl) (Nat.le_of_ble_eq_true rfl) (Nat.le_of_ble_eq_true rfl) (Nat.le_of_ble_eq_true rfl) dX2_pass_47 ?_
        refine lv_topi (fun x_2 ex_2 => ?_)
        refine lv_istore (lv' := [(4, .int x_2), (3, .int x_1), (0, .ref ox), (1, .int p0), (2, .int p1)]) hx hb dX2_pass_50 hl (by decide) rfl (fun ls hl => ?_)
        refine lv_aload_n hx hb dX2_pass_52 rfl (lv_at hl 2 rfl) ?_
        refine lv_iload hx hb dX2_pass_53 (lv_at hl 0 rfl) ?_
        have hPc := hP.sub (ws' := [(ox, .inr (2, [.int st, .int lf, .int ao, .ref ow, .ref og, .ref oc, .ref od, .int bad])), (ow, .inr (0, [.int lf, .ref oaw, .int wr.2])), (oaw, .inl (cIw, 600, .inl wr.1)), (og, .inr (1, [.ref ow, .int st, .int sib, .int tw.1, .int tw.2.1, .int tw.2.2.1, .int tw.2.2.2])), (oc, .inr (0, [.int lf, .ref oac, .int cr.2])), (oac, .inl (cIc, 600, .inl cr.1)), (od, .inr (1, [.ref oc, .int st, .int sib, .int tr.1, .int tr.2.1, .int tr.2.2.1, .int tr.2.2.2]))]) [0, 1, 2, 3, 4, 5, 6] rfl
        have hKc := hK.sub (tys' := [(cIw, .int), (cIc, .int)]) [0, 1] rfl
        have hDc := hD.sub (ws' := [(ox, .inr (2, [.int st, .int lf, .int ao, .ref ow, .ref og, .ref oc, .ref od, .int bad])), (ow, .inr (0, [.int lf, .ref oaw, .int wr.2])), (oaw, .inl (cIw, 600, .inl wr.1)), (og, .inr (1, [.ref ow, .int st, .int sib, .int tw.1, .int tw.2.1, .int tw.2.2.1, .int tw.2.2.2])), (oc, .inr (0, [.int lf, .ref oac, .int cr.2])), (oac, .inl (cIc, 600, .inl cr.1)), (od, .inr (1, [.ref oc, .int st, .int sib, .int tr.1, .int tr.2.1, .int tr.2.2.1, .int tr.2.2.2]))]) [0, 1, 2, 3, 4, 5, 6] (by decide) rfl
        have hFc := va_free (wc := [(ox, .inr (2, [.int st, .int lf, .int ao, .ref ow, .ref og, .ref oc, .ref od, .int bad])), (ow, .inr (0, [.int lf, .ref oaw, .int wr.2])), (oaw, .inl (cIw, 600, .inl wr.1)), (og, .inr (1, [.ref ow, .int st, .int sib, .int tw.1, .int tw.2.1, .int tw.2.2.1, .int tw.2.2.2])), (oc, .inr (0, [.int lf, .ref oac, .int cr.2])), (oac, .inl (cIc, 600, .inl cr.1)), (od, .inr (1, [.ref oc, .int st, .int sib, .int tr.1, .int tr.2.1, .int tr.2.2.1, .int tr.2.2.2]))]) hD hS hA [0, 1, 2, 3, 4, 5, 6] rfl
        refine vx_callv (vx_runV (As := [.int x_2]) (rest := []) ⟨hx, hb, hml, hown, hts⟩ (mX2_refuseMoreBytes l hlt dC dI cIw cIc ox ow oaw og oc oac od s.heap.size st lf ao sib wr tw cr tr bad x_2) (cwV 1 hts (gV wd374 wd375 wd7 wd26 wd376) rfl rfl rfl (by decide +kernel) ⟨Nat.le_of_ble_eq_true rfl, Nat.le_of_ble_eq_true rfl⟩) ⟨fb_x, va_recv hKc hPc (ci := 2) (q0 := 0) rfl rfl, pre_x hPc hKc hDc hZ hQ hS hFc⟩ rfl rfl hl.1 rfl (lv_room (Nat.le_of_ble_eq_true rfl)) dX2_pass_55 ⟨Nat.le_of_ble_eq_true rfl, Nat.le_of_ble_eq_true rfl⟩) hS (fun q _ h => hFc q h) hFc (fun q _ h => hFc q h) (fun E_5 ce q9 u9 t H1 locs ht hvm hpx hBX hz1 hk1 hS hcell hcv hcl => ?_) (fun u_4 t H1 locs ht hvm hw_3 hB hz1 hk1 hS => ?_)
        · obtain ⟨hw_3, hP1, hD1⟩ := hBX
          rw [ht] at hP1
          obtain ⟨hP, hD⟩ := va_join (wr := []) (w1 := [(ox, .inr (2, [.int st, .int lf, .int ao, .ref ow, .ref og, .ref oc, .ref od, .int bad])), (ow, .inr (0, [.int lf, .ref oaw, .int wr.2])), (oaw, .inl (cIw, 600, .inl wr.1)), (og, .inr (1, [.ref ow, .int st, .int sib, .int tw.1, .int tw.2.1, .int tw.2.2.1, .int tw.2.2.2])), (oc, .inr (0, [.int lf, .ref oac, .int cr.2])), (oac, .inl (cIc, 600, .inl cr.1)), (od, .inr (1, [.ref oc, .int st, .int sib, .int tr.1, .int tr.2.1, .int tr.2.2.1, .int tr.2.2.2]))]) hP hD [0, 1, 2, 3, 4, 5, 6] [] rfl rfl (by decide) (by decide) hk1 hFc hP1 hD1
          have hP9 := hP.sub (ws' := [(ox, .inr (2, [.int st, .int lf, .int ao, .ref ow, .ref og, .ref oc, .ref od, .int bad])), (ow, .inr (0, [.int lf, .ref oaw, .int wr.2])), (oaw, .inl (cIw, 600, .inl wr.1)), (og, .inr (1, [.ref ow, .int st, .int sib, .int tw.1, .int tw.2.1, .int tw.2.2.1, .int tw.2.2.2])), (oc, .inr (0, [.int lf, .ref oac, .int cr.2])), (oac, .inl (cIc, 600, .inl cr.1)), (od, .inr (1, [.ref oc, .int st, .int sib, .int tr.1, .int tr.2.1, .int tr.2.2.1, .int tr.2.2.2]))]) [0, 1, 2, 3, 4, 5, 6] rfl
          have hD9 := hD.sub (ws' := [(ox, .inr (2, [.int st, .int lf, .int ao, .ref ow, .ref og, .ref oc, .ref od, .int bad])), (ow, .inr (0, [.int lf, .ref oaw, .int wr.2])), (oaw, .inl (cIw, 600, .inl wr.1)), (og, .inr (1, [.ref ow, .int st, .int sib, .int tw.1, .int tw.2.1, .int tw.2.2.1, .int tw.2.2.2])), (oc, .inr (0, [.int lf, .ref oac, .int cr.2])), (oac, .inl (cIc, 600, .inl cr.1)), (od, .inr (1, [.ref oc, .int st, .int sib, .int tr.1, .int tr.2.1, .int tr.2.2.1, .int tr.2.2.2]))]) [0, 1, 2, 3, 4, 5, 6] (by decide) rfl
          exact vx_out (fun x h => (hE x h).elim) hlocks hcell hcv hcl (fun t2 ht2 hvm2 => ⟨(), trivial, ⟨(plX2_pass_1 st lf ao sib wr tw cr tr bad p0 p1 _ ex_1 c_11 c_16 c_30 _ ex_2 _ hw_3), by rw [ht2]; exact hP9, hD9⟩, hS.F ht2⟩) hS.2.2 (by omega) (by omega)
        obtain ⟨hP1, hD1⟩ := hB
        rw [ht] at hP1
        obtain ⟨hP, hD⟩ := va_join (wr := []) (w1 := [(ox, .inr (2, [.int st, .int lf, .int ao, .ref ow, .ref og, .ref oc, .ref od, .int bad])), (ow, .inr (0, [.int lf, .ref oaw, .int wr.2])), (oaw, .inl (cIw, 600, .inl wr.1)), (og, .inr (1, [.ref ow, .int st, .int sib, .int tw.1, .int tw.2.1, .int tw.2.2.1, .int tw.2.2.2])), (oc, .inr (0, [.int lf, .ref oac, .int cr.2])), (oac, .inl (cIc, 600, .inl cr.1)), (od, .inr (1, [.ref oc, .int st, .int sib, .int tr.1, .int tr.2.1, .int tr.2.2.1, .int tr.2.2.2]))]) hP hD [0, 1, 2, 3, 4, 5, 6] [] rfl rfl (by decide) (by decide) hk1 hFc hP1 hD1
        generalize H1 = H at hP hS ⊢
        have hP : va_P (dC, dI) vwCl [(ox, .inr (2, [.int st, .int lf, .int ao, .ref ow, .ref og, .ref oc, .ref od, .int bad])), (ow, .inr (0, [.int lf, .ref oaw, .int wr.2])), (oaw, .inl (cIw, 600, .inl wr.1)), (og, .inr (1, [.ref ow, .int st, .int sib, .int tw.1, .int tw.2.1, .int tw.2.2.1, .int tw.2.2.2])), (oc, .inr (0, [.int lf, .ref oac, .int cr.2])), (oac, .inl (cIc, 600, .inl cr.1)), (od, .inr (1, [.ref oc, .int st, .int sib, .int tr.1, .int tr.2.1, .int tr.2.2.1, .int tr.2.2.2]))] H := hP
        have hD : va_D A [(ox, .inr (2, [.int st, .int lf, .int ao, .ref ow, .ref og, .ref oc, .ref od, .int bad])), (ow, .inr (0, [.int lf, .ref oaw, .int wr.2])), (oaw, .inl (cIw, 600, .inl wr.1)), (og, .inr (1, [.ref ow, .int st, .int sib, .int tw.1, .int tw.2.1, .int tw.2.2.1, .int tw.2.2.2])), (oc, .inr (0, [.int lf, .ref oac, .int cr.2])), (oac, .inl (cIc, 600, .inl cr.1)), (od, .inr (1, [.ref oc, .int st, .int sib, .int tr.1, .int tr.2.1, .int tr.2.2.1, .int tr.2.2.2]))] := hD
        refine W.widen (k := 1) (n := 6) (by omega) (by omega) ?_
        refine lv_iconst (v := 0) hx hb dX2_pass_58 (by decide) ?_
        refine lv_istore (lv' := [(5, .int 0), (4, .int x_2), (3, .int x_1), (0, .ref ox), (1, .int p0), (2, .int p1)]) hx hb dX2_pass_59 hl (by decide) rfl (fun ls hl => ?_)
        exact kX2_pass_61 hx hb hr hml hown hts hlocks hA hZ hK (fz 0 x_2) wr tw cr tr bad p0 p1 x_1 x_2 0 (fz_ok _ _) (plX2_pass_2 st lf ao sib wr tw cr tr bad p0 p1 _ ex_1 c_11 c_16 c_30 _ ex_2 hw_3) _ _ (hP.sub (ws' := [(ox, .inr (2, [.int st, .int lf, .int ao, .ref ow, .ref og, .ref oc, .ref od, .int bad])), (ow, .inr (0, [.int lf, .ref oaw, .int wr.2])), (oaw, .inl (cIw, 600, .inl wr.1)), (og, .inr (1, [.ref ow, .int st, .int sib, .int tw.1, .int tw.2.1, .int tw.2.2.1, .int tw.2.2.2])), (oc, .inr (0, [.int lf, .ref oac, .int cr.2])), (oac, .inl (cIc, 600, .inl cr.1)), (od, .inr (1, [.ref oc, .int st, .int sib, .int tr.1, .int tr.2.1, .int tr.2.2.1, .int tr.2.2.2]))]) [0, 1, 2, 3, 4, 5, 6] rfl) (hD.sub (ws' := [(ox, .inr (2, [.int st, .int lf, .int ao, .ref ow, .ref og, .ref oc, .ref od, .int bad])), (ow, .inr (0, [.int lf, .ref oaw, .int wr.2])), (oaw, .inl (cIw, 600, .inl wr.1)), (og, .inr (1, [.ref ow, .int st, .int sib, .int tw.1, .int tw.2.1, .int tw.2.2.1, .int tw.2.2.2])), (oc, .inr (0, [.int lf, .ref oac, .int cr.2])), (oac, .inl (cIc, 600, .inl cr.1)), (od, .inr (1, [.ref oc, .int st, .int sib, .int tr.1, .int tr.2.1, .int tr.2.2.1, .int tr.2.2.2]))]) [0, 1, 2, 3, 4, 5, 6] (by decide) rfl) hS ls (lv_sub hl [3, 4, 5, 2, 1, 0] rfl)
      · obtain ⟨sa, hstr⟩ := hZ.2 (127, "fewer than no bytes") (by decide)
        exact vx_throwS (own := RX2) (cls := "java/lang/IllegalArgumentException") (names := ["java/lang/RuntimeException", "java/lang/Exception"]) hx hb hlt hown (by decide +kernel) (by decide +kernel) (hts _ wd214) (hts _ wd34) hstr (fun w h => (xat_90 w h).elim (hts w) (fun q => hZ.use q.1 q.2)) xgood_90 hQ.1 hQ.2 hS (hl.1.trans hml.symm) dX2_pass_33 dX2_pass_36 dX2_pass_37 dX2_pass_39 dX2_pass_42 (fun x h => (hE x h).elim) (Nat.le_of_ble_eq_true rfl) (Nat.le_of_ble_eq_true rfl) (Nat.le_of_ble_eq_true rfl) (Nat.le_of_ble_eq_true rfl) hlocks (fun t hvm hz hk => ⟨(), trivial, ⟨(plX2_pass_3 st lf ao sib wr tw cr tr bad p0 p1 _ ex_1 c_11 c_16 c_30), (x_at hS hP hz hk).1, hD⟩, (x_at hS hP hz hk).2⟩) hS.2.2 (by omega) (by omega)
    · obtain ⟨sa, hstr⟩ := hZ.2 (125, "no such whole byte was written") (by decide)
      exact vx_throwS (own := RX2) (cls := "java/lang/IndexOutOfBoundsException") (names := ["java/lang/RuntimeException", "java/lang/Exception"]) hx hb hlt hown (by decide +kernel) (by decide +kernel) (hts _ wd346) (hts _ wd37) hstr (fun w h => (xat_103 w h).elim (hts w) (fun q => hZ.use q.1 q.2)) xgood_103 hQ.1 hQ.2 hS (hl.1.trans hml.symm) dX2_pass_19 dX2_pass_22 dX2_pass_23 dX2_pass_25 dX2_pass_28 (fun x h => (hE x h).elim) (Nat.le_of_ble_eq_true rfl) (Nat.le_of_ble_eq_true rfl) (Nat.le_of_ble_eq_true rfl) (Nat.le_of_ble_eq_true rfl) hlocks (fun t hvm hz hk => ⟨(), trivial, ⟨(plX2_pass_4 st lf ao sib wr tw cr tr bad p0 p1 _ ex_1 c_11 c_16), (x_at hS hP hz hk).1, hD⟩, (x_at hS hP hz hk).2⟩) hS.2.2 (by omega) (by omega)
def LX2_get_46 (st : Int32) (lf : Int32) (ao : Int32) (sib : Int32) : Nat → Rw → Tk → Rw → Tk → Int32 → Int32 → Int32 → Int32 → Int32 → Int64 → Int32 → String ⊕ (Int64 × Tk × Int32)
  | 0, wr, tw, cr, tr, bad, p0, pl, sf, on, fd, i => Sum.inr (0, tr, bad)
  | n + 1, wr, tw, cr, tr, bad, p0, pl, sf, on, fd, i =>
    if p0 ≤ i then
      Sum.inr (fd, tr, bad)
    else
      let zhw_2 := FX2_readBit st lf ao sib wr tw cr tr bad
      let r_1 := zhw_2.1
      let u_3 := zhw_2.2
      if 0 ≤ r_1 then
        let r_4 := FX2_shiftOf st lf ao sib wr tw cr u_3 bad i p0
        let x_6 := fd ||| (r_1.toInt64 <<< (r_4.toInt64 &&& 63))
        let i_7 := i + 1
        LX2_get_46 st lf ao sib n wr tw cr u_3 bad p0 pl sf on x_6 i_7
      else
        let u_9 := FX1_goBack st sib lf u_3 cr pl sf on
        if r_1 = (-3) then
          Sum.inr (r_1.toInt64, u_9, 1)
        else
          Sum.inr (r_1.toInt64, u_9, 0)
def FX2_get (st : Int32) (lf : Int32) (ao : Int32) (sib : Int32) (wr : Rw) (tw : Tk) (cr : Rw) (tr : Tk) (bad : Int32) (p0 : Int32) : String ⊕ (Int64 × Tk × Int32) :=
  xbind (FX2_refuseOtherWidths p0) (fun zhw_1 =>
    if bad = 0 then
      LX2_get_46 st lf ao sib (fz 0 p0) wr tw cr tr bad p0 tr.1 tr.2.1 tr.2.2.1 0 0
    else
      Sum.inr ((-3), tr, bad))
set_option maxRecDepth 100000 in
theorem plX2_get_l46_0 (st : Int32) (lf : Int32) (ao : Int32) (sib : Int32) (n : Nat) (wr : Rw) (tw : Tk) (cr : Rw) (tr : Tk) (bad : Int32) (p0 : Int32) (pl : Int32) (sf : Int32) (on : Int32) (fd : Int64) (i : Int32) (c_49 : p0 ≤ i) : Sum.inr (fd, tr, bad) = LX2_get_46 st lf ao sib (n + 1) wr tw cr tr bad p0 pl sf on fd i := by
  exact (if_pos c_49).symm
set_option maxRecDepth 100000 in
theorem plX2_get_l46_1 (st : Int32) (lf : Int32) (ao : Int32) (sib : Int32) (n : Nat) (wr : Rw) (tw : Tk) (cr : Rw) (tr : Tk) (bad : Int32) (p0 : Int32) (pl : Int32) (sf : Int32) (on : Int32) (fd : Int64) (i : Int32) (c_49 : ¬ (p0 ≤ i)) (r_1 : Int32) (u_3 : Tk) (hw_2 : (r_1, u_3) = FX2_readBit st lf ao sib wr tw cr tr bad) (c_60 : 0 ≤ r_1) (r_4 : Int32) (hw_5 : r_4 = FX2_shiftOf st lf ao sib wr tw cr u_3 bad i p0) (x_6 : Int64) (ex_6 : x_6 = fd ||| (r_1.toInt64 <<< (r_4.toInt64 &&& 63))) (i_7 : Int32) (ei_7 : i_7 = i + 1) : LX2_get_46 st lf ao sib n wr tw cr u_3 bad p0 pl sf on x_6 i_7 = LX2_get_46 st lf ao sib (n + 1) wr tw cr tr bad p0 pl sf on fd i := by
  have q0 := congrArg (fun z => z.1) hw_2
  have q1 := congrArg (fun z => z.2) hw_2
  dsimp only at q0 q1
  subst q0
  subst q1
  clear hw_2
  subst hw_5
  subst ex_6
  subst ei_7
  exact ((if_neg c_49).trans (if_pos c_60)).symm
set_option maxRecDepth 100000 in
theorem plX2_get_l46_2 (st : Int32) (lf : Int32) (ao : Int32) (sib : Int32) (n : Nat) (wr : Rw) (tw : Tk) (cr : Rw) (tr : Tk) (bad : Int32) (p0 : Int32) (pl : Int32) (sf : Int32) (on : Int32) (fd : Int64) (i : Int32) (c_49 : ¬ (p0 ≤ i)) (r_1 : Int32) (u_3 : Tk) (hw_2 : (r_1, u_3) = FX2_readBit st lf ao sib wr tw cr tr bad) (c_60 : ¬ (0 ≤ r_1)) (u_9 : Tk) (hw_8 : u_9 = FX1_goBack st sib lf u_3 cr pl sf on) (c_79 : ¬ (r_1 = (-3))) : Sum.inr (r_1.toInt64, u_9, 0) = LX2_get_46 st lf ao sib (n + 1) wr tw cr tr bad p0 pl sf on fd i := by
  have q0 := congrArg (fun z => z.1) hw_2
  have q1 := congrArg (fun z => z.2) hw_2
  dsimp only at q0 q1
  subst q0
  subst q1
  clear hw_2
  subst hw_8
  exact (((if_neg c_49).trans (if_neg c_60)).trans (if_neg c_79)).symm
set_option maxRecDepth 100000 in
theorem plX2_get_l46_3 (st : Int32) (lf : Int32) (ao : Int32) (sib : Int32) (n : Nat) (wr : Rw) (tw : Tk) (cr : Rw) (tr : Tk) (bad : Int32) (p0 : Int32) (pl : Int32) (sf : Int32) (on : Int32) (fd : Int64) (i : Int32) (c_49 : ¬ (p0 ≤ i)) (r_1 : Int32) (u_3 : Tk) (hw_2 : (r_1, u_3) = FX2_readBit st lf ao sib wr tw cr tr bad) (c_60 : ¬ (0 ≤ r_1)) (u_9 : Tk) (hw_8 : u_9 = FX1_goBack st sib lf u_3 cr pl sf on) (c_79 : r_1 = (-3)) : Sum.inr (r_1.toInt64, u_9, 1) = LX2_get_46 st lf ao sib (n + 1) wr tw cr tr bad p0 pl sf on fd i := by
  have q0 := congrArg (fun z => z.1) hw_2
  have q1 := congrArg (fun z => z.2) hw_2
  dsimp only at q0 q1
  subst q0
  subst q1
  clear hw_2
  subst hw_8
  exact (((if_neg c_49).trans (if_neg c_60)).trans (if_pos c_79)).symm
set_option maxRecDepth 100000 in
theorem plX2_get_0 (st : Int32) (lf : Int32) (ao : Int32) (sib : Int32) (wr : Rw) (tw : Tk) (cr : Rw) (tr : Tk) (bad : Int32) (p0 : Int32) (E_3 : String) (hw_1 : Sum.inl E_3 = FX2_refuseOtherWidths p0) : Sum.inl E_3 = FX2_get st lf ao sib wr tw cr tr bad p0 := by
  refine Eq.symm ?_
  refine (xb_inl hw_1).trans ?_
  exact rfl
set_option maxRecDepth 100000 in
theorem plX2_get_1 (st : Int32) (lf : Int32) (ao : Int32) (sib : Int32) (wr : Rw) (tw : Tk) (cr : Rw) (tr : Tk) (bad : Int32) (p0 : Int32) (hw_1 : Sum.inr () = FX2_refuseOtherWidths p0) (c_8 : bad = 0) : LX2_get_46 st lf ao sib (fz 0 p0) wr tw cr tr bad p0 tr.1 tr.2.1 tr.2.2.1 0 0 = FX2_get st lf ao sib wr tw cr tr bad p0 := by
  refine Eq.symm ?_
  refine (xb_inr hw_1).trans ?_
  refine (if_pos c_8).trans ?_
  exact rfl
set_option maxRecDepth 100000 in
theorem plX2_get_2 (st : Int32) (lf : Int32) (ao : Int32) (sib : Int32) (wr : Rw) (tw : Tk) (cr : Rw) (tr : Tk) (bad : Int32) (p0 : Int32) (hw_1 : Sum.inr () = FX2_refuseOtherWidths p0) (c_8 : ¬ (bad = 0)) : Sum.inr ((-3), tr, bad) = FX2_get st lf ao sib wr tw cr tr bad p0 := by
  refine Eq.symm ?_
  refine (xb_inr hw_1).trans ?_
  refine (if_neg c_8).trans ?_
  exact rfl
set_option maxHeartbeats 4000000 in
set_option maxRecDepth 100000 in
theorem kX2_get_46 {p : Program} {l : Launch} {e : Env} {s : State} {m : MethodId} {args : Array Value} {below : List Frame} {meth : Method} {c : Code} {dC : Nat → ClassId} {dI : Nat → Nat → Nat} {cIw cIc : ClassId} {ox ow oaw og oc oac od : Nat} {st : Int32} {lf : Int32} {ao : Int32} {sib : Int32} {XC : String → State → State → Prop} {z : String ⊕ (Int64 × Tk × Int32)} {A : Nat → Prop} (hx : p.tables.exec = Jvm.exec) (hb : c.code = cX2_get) (hr : meth.sig.returnType = (some .long)) (hml : c.maxLocals = 9) (hown : s.vm.findClass RX2 = some m.cls) (hts : ∀ w ∈ G, w.before args s = true) (hlocks : meth.locks = false) (hA : ∀ q : Nat, s.heap.size ≤ q → A q) (hZ : zOk s) (hK : va_K (dC, dI) vwCl [(cIw, .int), (cIc, .int)] s) : ∀ (n : Nat) (wr : Rw) (tw : Tk) (cr : Rw) (tr : Tk) (bad : Int32) (p0 : Int32) (pl : Int32) (sf : Int32) (on : Int32) (fd : Int64) (i : Int32), (fuel n i p0) → LX2_get_46 st lf ao sib n wr tw cr tr bad p0 pl sf on fd i = z → ∀ (H : Heap) (locs : List Loc), va_P (dC, dI) vwCl [(ox, .inr (2, [.int st, .int lf, .int ao, .ref ow, .ref og, .ref oc, .ref od, .int bad])), (ow, .inr (0, [.int lf, .ref oaw, .int wr.2])), (oaw, .inl (cIw, 600, .inl wr.1)), (og, .inr (1, [.ref ow, .int st, .int sib, .int tw.1, .int tw.2.1, .int tw.2.2.1, .int tw.2.2.2])), (oc, .inr (0, [.int lf, .ref oac, .int cr.2])), (oac, .inl (cIc, 600, .inl cr.1)), (od, .inr (1, [.ref oc, .int st, .int sib, .int tr.1, .int tr.2.1, .int tr.2.2.1, .int tr.2.2.2]))] H → va_D A [(ox, .inr (2, [.int st, .int lf, .int ao, .ref ow, .ref og, .ref oc, .ref od, .int bad])), (ow, .inr (0, [.int lf, .ref oaw, .int wr.2])), (oaw, .inl (cIw, 600, .inl wr.1)), (og, .inr (1, [.ref ow, .int st, .int sib, .int tw.1, .int tw.2.1, .int tw.2.2.1, .int tw.2.2.2])), (oc, .inr (0, [.int lf, .ref oac, .int cr.2])), (oac, .inl (cIc, 600, .inl cr.1)), (od, .inr (1, [.ref oc, .int st, .int sib, .int tr.1, .int tr.2.1, .int tr.2.2.1, .int tr.2.2.2]))] → va_S A s.heap H locs → ∀ (ls : Array Slot), lv_has ls 9 [(0, .ref ox), (1, .int p0), (2, .int pl), (3, .int sf), (4, .int on), (5, .long fd), (7, .int i)] → W p l e (headSpec (Cond.code yX2_get cX2_get 9 (some .long) :: G) ({ frames := 7, cells := 1, slots := 6, locals := 104 } : Room)).room s m args below meth c H locs 1 6 (vx_MQ below (va_Ql (fun (r : Int64) (u : Tk × Int32) => Sum.inr (r, u) = z) (fun (u : Tk × Int32) (t : State) => va_P (dC, dI) vwCl [(ox, .inr (2, [.int st, .int lf, .int ao, .ref ow, .ref og, .ref oc, .ref od, .int u.2])), (ow, .inr (0, [.int lf, .ref oaw, .int wr.2])), (oaw, .inl (cIw, 600, .inl wr.1)), (og, .inr (1, [.ref ow, .int st, .int sib, .int tw.1, .int tw.2.1, .int tw.2.2.1, .int tw.2.2.2])), (oc, .inr (0, [.int lf, .ref oac, .int cr.2])), (oac, .inl (cIc, 600, .inl cr.1)), (od, .inr (1, [.ref oc, .int st, .int sib, .int u.1.1, .int u.1.2.1, .int u.1.2.2.1, .int u.1.2.2.2]))] t.heap ∧ va_D A [(ox, .inr (2, [.int st, .int lf, .int ao, .ref ow, .ref og, .ref oc, .ref od, .int u.2])), (ow, .inr (0, [.int lf, .ref oaw, .int wr.2])), (oaw, .inl (cIw, 600, .inl wr.1)), (og, .inr (1, [.ref ow, .int st, .int sib, .int tw.1, .int tw.2.1, .int tw.2.2.1, .int tw.2.2.2])), (oc, .inr (0, [.int lf, .ref oac, .int cr.2])), (oac, .inl (cIc, 600, .inl cr.1)), (od, .inr (1, [.ref oc, .int st, .int sib, .int u.1.1, .int u.1.2.1, .int u.1.2.2.1, .int u.1.2.2.2]))]) A) XC args s 1 6 A) (F0 m 46 ls []) := by
  intro n
  induction n with
  | zero =>
    intro wr tw cr tr bad p0 pl sf on fd i hf hz
    exact absurd hf.1 (Nat.lt_irrefl 0)
  | succ n ih =>
    intro wr tw cr tr bad p0 pl sf on fd i hf hz H locs hP hD hS ls hl
    refine lv_iload hx hb dX2_get_46 (lv_at hl 6 rfl) ?_
    refine lv_iload_n hx hb dX2_get_48 rfl (lv_at hl 1 rfl) ?_
    refine lv_icmp_ge (tgt := 116) hx hb dX2_get_49 (by decide) (fun c_49 => ?_) (fun c_49 => ?_)
    · refine lv_lload hx hb dX2_get_116 (lv_at hl 5 rfl) ?_
      have hP9 := hP.sub (ws' := [(ox, .inr (2, [.int st, .int lf, .int ao, .ref ow, .ref og, .ref oc, .ref od, .int bad])), (ow, .inr (0, [.int lf, .ref oaw, .int wr.2])), (oaw, .inl (cIw, 600, .inl wr.1)), (og, .inr (1, [.ref ow, .int st, .int sib, .int tw.1, .int tw.2.1, .int tw.2.2.1, .int tw.2.2.2])), (oc, .inr (0, [.int lf, .ref oac, .int cr.2])), (oac, .inl (cIc, 600, .inl cr.1)), (od, .inr (1, [.ref oc, .int st, .int sib, .int tr.1, .int tr.2.1, .int tr.2.2.1, .int tr.2.2.2]))]) [0, 1, 2, 3, 4, 5, 6] rfl
      have hD9 := hD.sub (ws' := [(ox, .inr (2, [.int st, .int lf, .int ao, .ref ow, .ref og, .ref oc, .ref od, .int bad])), (ow, .inr (0, [.int lf, .ref oaw, .int wr.2])), (oaw, .inl (cIw, 600, .inl wr.1)), (og, .inr (1, [.ref ow, .int st, .int sib, .int tw.1, .int tw.2.1, .int tw.2.2.1, .int tw.2.2.2])), (oc, .inr (0, [.int lf, .ref oac, .int cr.2])), (oac, .inl (cIc, 600, .inl cr.1)), (od, .inr (1, [.ref oc, .int st, .int sib, .int tr.1, .int tr.2.1, .int tr.2.2.1, .int tr.2.2.2]))]) [0, 1, 2, 3, 4, 5, 6] (by decide) rfl
      refine vx_ret ?_
      refine W.widen (k := 1) (n := 6) (by omega) (by omega) ?_
      exact W.lret (v := fd) hx hb hr (fun t ht hW => ⟨⟨fd, (tr, bad), rfl, ((plX2_get_l46_0 st lf ao sib n wr tw cr tr bad p0 pl sf on fd i c_49).trans hz), by rw [ht]; exact hP9, hD9⟩, hS.F ht⟩) hS.2.2 dX2_get_118
    · refine lv_aload_n hx hb dX2_get_52 rfl (lv_at hl 0 rfl) ?_
      have hPc := hP.sub (ws' := [(ox, .inr (2, [.int st, .int lf, .int ao, .ref ow, .ref og, .ref oc, .ref od, .int bad])), (ow, .inr (0, [.int lf, .ref oaw, .int wr.2])), (oaw, .inl (cIw, 600, .inl wr.1)), (og, .inr (1, [.ref ow, .int st, .int sib, .int tw.1, .int tw.2.1, .int tw.2.2.1, .int tw.2.2.2])), (oc, .inr (0, [.int lf, .ref oac, .int cr.2])), (oac, .inl (cIc, 600, .inl cr.1)), (od, .inr (1, [.ref oc, .int st, .int sib, .int tr.1, .int tr.2.1, .int tr.2.2.1, .int tr.2.2.2]))]) [0, 1, 2, 3, 4, 5, 6] rfl
      have hKc := hK.sub (tys' := [(cIw, .int), (cIc, .int)]) [0, 1] rfl
      have hDc := hD.sub (ws' := [(ox, .inr (2, [.int st, .int lf, .int ao, .ref ow, .ref og, .ref oc, .ref od, .int bad])), (ow, .inr (0, [.int lf, .ref oaw, .int wr.2])), (oaw, .inl (cIw, 600, .inl wr.1)), (og, .inr (1, [.ref ow, .int st, .int sib, .int tw.1, .int tw.2.1, .int tw.2.2.1, .int tw.2.2.2])), (oc, .inr (0, [.int lf, .ref oac, .int cr.2])), (oac, .inl (cIc, 600, .inl cr.1)), (od, .inr (1, [.ref oc, .int st, .int sib, .int tr.1, .int tr.2.1, .int tr.2.2.1, .int tr.2.2.2]))]) [0, 1, 2, 3, 4, 5, 6] (by decide) rfl
      have hFc := va_free (wc := [(ox, .inr (2, [.int st, .int lf, .int ao, .ref ow, .ref og, .ref oc, .ref od, .int bad])), (ow, .inr (0, [.int lf, .ref oaw, .int wr.2])), (oaw, .inl (cIw, 600, .inl wr.1)), (og, .inr (1, [.ref ow, .int st, .int sib, .int tw.1, .int tw.2.1, .int tw.2.2.1, .int tw.2.2.2])), (oc, .inr (0, [.int lf, .ref oac, .int cr.2])), (oac, .inl (cIc, 600, .inl cr.1)), (od, .inr (1, [.ref oc, .int st, .int sib, .int tr.1, .int tr.2.1, .int tr.2.2.1, .int tr.2.2.2]))]) hD hS hA [0, 1, 2, 3, 4, 5, 6] rfl
      refine va_calli (va_runV (As := []) (rest := []) ⟨hx, hb, hml, hown, hts⟩ (mX2_readBit l dC dI cIw cIc ox ow oaw og oc oac od H.size st lf ao sib wr tw cr tr bad) (cwV 0 hts (gV wd392 wd393 wd8 wd26 wd394) rfl rfl rfl (by decide +kernel) ⟨Nat.le_of_ble_eq_true rfl, Nat.le_of_ble_eq_true rfl⟩) ⟨fb_rw, va_recv hKc hPc (ci := 2) (q0 := 0) rfl rfl, pre_rw hPc hKc hDc hZ⟩ rfl rfl hl.1 rfl (lv_room (Nat.le_of_ble_eq_true rfl)) dX2_get_53 ⟨Nat.le_of_ble_eq_true rfl, Nat.le_of_ble_eq_true rfl⟩) hS (fun q _ h => hFc q h) hFc (fun r_1 u_3 t H1 locs ht hvm hw_2 hB hz1 hk1 hS => ?_)
      obtain ⟨hP1, hD1⟩ := hB
      rw [ht] at hP1
      obtain ⟨hP, hD⟩ := va_join (wr := []) (w1 := [(ox, .inr (2, [.int st, .int lf, .int ao, .ref ow, .ref og, .ref oc, .ref od, .int bad])), (ow, .inr (0, [.int lf, .ref oaw, .int wr.2])), (oaw, .inl (cIw, 600, .inl wr.1)), (og, .inr (1, [.ref ow, .int st, .int sib, .int tw.1, .int tw.2.1, .int tw.2.2.1, .int tw.2.2.2])), (oc, .inr (0, [.int lf, .ref oac, .int cr.2])), (oac, .inl (cIc, 600, .inl cr.1)), (od, .inr (1, [.ref oc, .int st, .int sib, .int u_3.1, .int u_3.2.1, .int u_3.2.2.1, .int u_3.2.2.2]))]) hP hD [0, 1, 2, 3, 4, 5, 6] [] rfl rfl (by decide) (by decide) hk1 hFc hP1 hD1
      generalize H1 = H at hP hS ⊢
      have hP : va_P (dC, dI) vwCl [(ox, .inr (2, [.int st, .int lf, .int ao, .ref ow, .ref og, .ref oc, .ref od, .int bad])), (ow, .inr (0, [.int lf, .ref oaw, .int wr.2])), (oaw, .inl (cIw, 600, .inl wr.1)), (og, .inr (1, [.ref ow, .int st, .int sib, .int tw.1, .int tw.2.1, .int tw.2.2.1, .int tw.2.2.2])), (oc, .inr (0, [.int lf, .ref oac, .int cr.2])), (oac, .inl (cIc, 600, .inl cr.1)), (od, .inr (1, [.ref oc, .int st, .int sib, .int u_3.1, .int u_3.2.1, .int u_3.2.2.1, .int u_3.2.2.2]))] H := hP
      have hD : va_D A [(ox, .inr (2, [.int st, .int lf, .int ao, .ref ow, .ref og, .ref oc, .ref od, .int bad])), (ow, .inr (0, [.int lf, .ref oaw, .int wr.2])), (oaw, .inl (cIw, 600, .inl wr.1)), (og, .inr (1, [.ref ow, .int st, .int sib, .int tw.1, .int tw.2.1, .int tw.2.2.1, .int tw.2.2.2])), (oc, .inr (0, [.int lf, .ref oac, .int cr.2])), (oac, .inl (cIc, 600, .inl cr.1)), (od, .inr (1, [.ref oc, .int st, .int sib, .int u_3.1, .int u_3.2.1, .int u_3.2.2.1, .int u_3.2.2.2]))] := hD
      refine lv_istore (lv' := [(8, .int r_1), (0, .ref ox), (1, .int p0), (2, .int pl), (3, .int sf), (4, .int on), (5, .long fd), (7, .int i)]) hx hb dX2_get_56 hl (by decide) rfl (fun ls hl => ?_)
      refine lv_iload hx hb dX2_get_58 (lv_at hl 0 rfl) ?_
      refine lv_if_ge (tgt := 94) hx hb dX2_get_60 (by decide) (fun c_60 => ?_) (fun c_60 => ?_)
      · refine lv_lload hx hb dX2_get_94 (lv_at hl 6 rfl) ?_
        refine lv_iload hx hb dX2_get_96 (lv_at hl 0 rfl) ?_
        refine lv_i2l (v := r_1.toInt64) hx hb dX2_get_98 rfl ?_
        refine lv_aload_n hx hb dX2_get_99 rfl (lv_at hl 1 rfl) ?_
        refine lv_iload hx hb dX2_get_100 (lv_at hl 7 rfl) ?_
        refine lv_iload_n hx hb dX2_get_102 rfl (lv_at hl 2 rfl) ?_
        have hPc := hP.sub (ws' := [(ox, .inr (2, [.int st, .int lf, .int ao, .ref ow, .ref og, .ref oc, .ref od, .int bad])), (ow, .inr (0, [.int lf, .ref oaw, .int wr.2])), (oaw, .inl (cIw, 600, .inl wr.1)), (og, .inr (1, [.ref ow, .int st, .int sib, .int tw.1, .int tw.2.1, .int tw.2.2.1, .int tw.2.2.2])), (oc, .inr (0, [.int lf, .ref oac, .int cr.2])), (oac, .inl (cIc, 600, .inl cr.1)), (od, .inr (1, [.ref oc, .int st, .int sib, .int u_3.1, .int u_3.2.1, .int u_3.2.2.1, .int u_3.2.2.2]))]) [0, 1, 2, 3, 4, 5, 6] rfl
        have hKc := hK.sub (tys' := [(cIw, .int), (cIc, .int)]) [0, 1] rfl
        refine vp_callSi (va_Run.run (va_runV (As := [.int i, .int p0]) (rest := [.long r_1.toInt64, .long fd]) ⟨hx, hb, hml, hown, hts⟩ (mX2_shiftOf l dC dI cIw cIc ox ow oaw og oc oac od st lf ao sib wr tw cr u_3 bad i p0) (cwV 2 hts (gV wd296 wd297 wd4 wd26 wd298) rfl rfl rfl (by decide +kernel) ⟨Nat.le_of_ble_eq_true rfl, Nat.le_of_ble_eq_true rfl⟩) ⟨fb_ro, va_recv hKc hPc (ci := 2) (q0 := 0) rfl rfl, pre_ro hPc hKc hZ⟩ rfl rfl hl.1 rfl (lv_room (Nat.le_of_ble_eq_true rfl)) dX2_get_103 ⟨Nat.le_of_ble_eq_true rfl, Nat.le_of_ble_eq_true rfl⟩)) (fun r_4 hw_5 => ?_)
        refine lv_lshl (v := r_1.toInt64 <<< (r_4.toInt64 &&& 63)) hx hb dX2_get_106 rfl ?_
        refine lv_lor hx hb dX2_get_107 ?_
        refine lv_topl (fun x_6 ex_6 => ?_)
        refine lv_lstore (lv' := [(5, .long x_6), (8, .int r_1), (0, .ref ox), (1, .int p0), (2, .int pl), (3, .int sf), (4, .int on), (7, .int i)]) hx hb dX2_get_108 hl (by decide) rfl (fun ls hl => ?_)
        obtain ⟨i_7, ei_7⟩ : ∃ y : Int32, y = i + 1 := ⟨_, rfl⟩
        refine lv_iinc (v := i_7) (lv' := [(7, .int i_7), (5, .long x_6), (8, .int r_1), (0, .ref ox), (1, .int p0), (2, .int pl), (3, .int sf), (4, .int on)]) hx hb dX2_get_110 hl (k := 7) rfl (by rw [ei_7]; rfl) (by decide) rfl (fun ls hl => ?_)
        refine lv_goto (tgt := 46) hx hb dX2_get_113 (by decide) ?_
        exact ih wr tw cr u_3 bad p0 pl sf on x_6 i_7 (fuel_step2 hf (nle_lt c_49) (by assumption)) ((plX2_get_l46_1 st lf ao sib n wr tw cr tr bad p0 pl sf on fd i c_49 _ _ hw_2 c_60 _ hw_5 _ ex_6 _ ei_7).trans hz) _ _ (hP.sub (ws' := [(ox, .inr (2, [.int st, .int lf, .int ao, .ref ow, .ref og, .ref oc, .ref od, .int bad])), (ow, .inr (0, [.int lf, .ref oaw, .int wr.2])), (oaw, .inl (cIw, 600, .inl wr.1)), (og, .inr (1, [.ref ow, .int st, .int sib, .int tw.1, .int tw.2.1, .int tw.2.2.1, .int tw.2.2.2])), (oc, .inr (0, [.int lf, .ref oac, .int cr.2])), (oac, .inl (cIc, 600, .inl cr.1)), (od, .inr (1, [.ref oc, .int st, .int sib, .int u_3.1, .int u_3.2.1, .int u_3.2.2.1, .int u_3.2.2.2]))]) [0, 1, 2, 3, 4, 5, 6] rfl) (hD.sub (ws' := [(ox, .inr (2, [.int st, .int lf, .int ao, .ref ow, .ref og, .ref oc, .ref od, .int bad])), (ow, .inr (0, [.int lf, .ref oaw, .int wr.2])), (oaw, .inl (cIw, 600, .inl wr.1)), (og, .inr (1, [.ref ow, .int st, .int sib, .int tw.1, .int tw.2.1, .int tw.2.2.1, .int tw.2.2.2])), (oc, .inr (0, [.int lf, .ref oac, .int cr.2])), (oac, .inl (cIc, 600, .inl cr.1)), (od, .inr (1, [.ref oc, .int st, .int sib, .int u_3.1, .int u_3.2.1, .int u_3.2.2.1, .int u_3.2.2.2]))]) [0, 1, 2, 3, 4, 5, 6] (by decide) rfl) hS ls (lv_sub hl [3, 4, 5, 6, 7, 1, 0] rfl)
      · refine lv_aload_n hx hb dX2_get_63 rfl (lv_at hl 1 rfl) ?_
        refine va_get (D := (dC, dI)) (ci := 2) (v := .ref od) (C := RX2) (T := TX2) (N := 8) hx hb hts inGX2 hown hK hP 0 rfl rfl 6 (by decide) (hts _ wd104) (fun _ h9 => h9) rfl dX2_get_64 ?_
        refine lv_iload_n hx hb dX2_get_67 rfl (lv_at hl 3 rfl) ?_
        refine lv_iload_n hx hb dX2_get_68 rfl (lv_at hl 4 rfl) ?_
        refine lv_iload hx hb dX2_get_69 (lv_at hl 5 rfl) ?_
        have hPc := hP.sub (ws' := [(od, .inr (1, [.ref oc, .int st, .int sib, .int u_3.1, .int u_3.2.1, .int u_3.2.2.1, .int u_3.2.2.2])), (oc, .inr (0, [.int lf, .ref oac, .int cr.2])), (oac, .inl (cIc, 600, .inl cr.1))]) [6, 4, 5] rfl
        have hKc := hK.sub (tys' := [(cIc, .int)]) [1] rfl
        have hDc := hD.sub (ws' := [(od, .inr (1, [.ref oc, .int st, .int sib, .int u_3.1, .int u_3.2.1, .int u_3.2.2.1, .int u_3.2.2.2])), (oc, .inr (0, [.int lf, .ref oac, .int cr.2])), (oac, .inl (cIc, 600, .inl cr.1))]) [6, 4, 5] (by decide) rfl
        have hFc := va_free (wc := [(od, .inr (1, [.ref oc, .int st, .int sib, .int u_3.1, .int u_3.2.1, .int u_3.2.2.1, .int u_3.2.2.2])), (oc, .inr (0, [.int lf, .ref oac, .int cr.2])), (oac, .inl (cIc, 600, .inl cr.1))]) hD hS hA [6, 4, 5] rfl
        refine va_callv (va_runV (As := [.int pl, .int sf, .int on]) (rest := []) ⟨hx, hb, hml, hown, hts⟩ (mX1_goBack l dC dI cIc od oc oac H.size st sib lf u_3 cr pl sf on) (cwV 3 hts (gV wd405 wd196 wd197 wd29 wd198) rfl rfl rfl (by decide +kernel) ⟨Nat.le_of_ble_eq_true rfl, Nat.le_of_ble_eq_true rfl⟩) ⟨fb_rw, va_recv hKc hPc (ci := 1) (q0 := 0) rfl rfl, pre_rw hPc hKc hDc hZ⟩ rfl rfl hl.1 rfl (lv_room (Nat.le_of_ble_eq_true rfl)) dX2_get_71 ⟨Nat.le_of_ble_eq_true rfl, Nat.le_of_ble_eq_true rfl⟩) hS (fun q _ h => hFc q h) hFc (fun u_9 t H1 locs ht hvm hw_8 hB hz1 hk1 hS => ?_)
        obtain ⟨hP1, hD1⟩ := hB
        rw [ht] at hP1
        obtain ⟨hP, hD⟩ := va_join (wr := [(ox, .inr (2, [.int st, .int lf, .int ao, .ref ow, .ref og, .ref oc, .ref od, .int bad])), (ow, .inr (0, [.int lf, .ref oaw, .int wr.2])), (oaw, .inl (cIw, 600, .inl wr.1)), (og, .inr (1, [.ref ow, .int st, .int sib, .int tw.1, .int tw.2.1, .int tw.2.2.1, .int tw.2.2.2]))]) (w1 := [(od, .inr (1, [.ref oc, .int st, .int sib, .int u_9.1, .int u_9.2.1, .int u_9.2.2.1, .int u_9.2.2.2])), (oc, .inr (0, [.int lf, .ref oac, .int cr.2])), (oac, .inl (cIc, 600, .inl cr.1))]) hP hD [6, 4, 5] [0, 1, 2, 3] rfl rfl (by decide) (by decide) hk1 hFc hP1 hD1
        generalize H1 = H at hP hS ⊢
        have hP : va_P (dC, dI) vwCl [(ox, .inr (2, [.int st, .int lf, .int ao, .ref ow, .ref og, .ref oc, .ref od, .int bad])), (ow, .inr (0, [.int lf, .ref oaw, .int wr.2])), (oaw, .inl (cIw, 600, .inl wr.1)), (og, .inr (1, [.ref ow, .int st, .int sib, .int tw.1, .int tw.2.1, .int tw.2.2.1, .int tw.2.2.2])), (od, .inr (1, [.ref oc, .int st, .int sib, .int u_9.1, .int u_9.2.1, .int u_9.2.2.1, .int u_9.2.2.2])), (oc, .inr (0, [.int lf, .ref oac, .int cr.2])), (oac, .inl (cIc, 600, .inl cr.1))] H := hP
        have hD : va_D A [(ox, .inr (2, [.int st, .int lf, .int ao, .ref ow, .ref og, .ref oc, .ref od, .int bad])), (ow, .inr (0, [.int lf, .ref oaw, .int wr.2])), (oaw, .inl (cIw, 600, .inl wr.1)), (og, .inr (1, [.ref ow, .int st, .int sib, .int tw.1, .int tw.2.1, .int tw.2.2.1, .int tw.2.2.2])), (od, .inr (1, [.ref oc, .int st, .int sib, .int u_9.1, .int u_9.2.1, .int u_9.2.2.1, .int u_9.2.2.2])), (oc, .inr (0, [.int lf, .ref oac, .int cr.2])), (oac, .inl (cIc, 600, .inl cr.1))] := hD
        refine lv_aload_n hx hb dX2_get_74 rfl (lv_at hl 1 rfl) ?_
        refine lv_iload hx hb dX2_get_75 (lv_at hl 0 rfl) ?_
        refine lv_bipush (v := (-3)) hx hb dX2_get_77 (by decide) ?_
        refine lv_icmp_ne (tgt := 86) hx hb dX2_get_79 (by decide) (fun c_79 => ?_) (fun c_79 => ?_)
        · refine lv_iconst (v := 0) hx hb dX2_get_86 (by decide) ?_
          refine va_put (D := (dC, dI)) (ci := 2) (v := .int 0) (ty := .boolean) (C := RX2) (T := TX2) (N := 8) hx hb hts inGX2 tyX2 tyX2_ok nmX2 hown hK hP hD hS 0 rfl rfl 7 (by decide) (hts _ wd105) (fun _ h9 => h9) rfl (by decide +kernel) rfl rfl (Nat.le_of_ble_eq_true rfl) dX2_get_87 (fun H locs hP hD hS => ?_)
          have hP : va_P (dC, dI) vwCl [(ox, .inr (2, [.int st, .int lf, .int ao, .ref ow, .ref og, .ref oc, .ref od, .int 0])), (ow, .inr (0, [.int lf, .ref oaw, .int wr.2])), (oaw, .inl (cIw, 600, .inl wr.1)), (og, .inr (1, [.ref ow, .int st, .int sib, .int tw.1, .int tw.2.1, .int tw.2.2.1, .int tw.2.2.2])), (od, .inr (1, [.ref oc, .int st, .int sib, .int u_9.1, .int u_9.2.1, .int u_9.2.2.1, .int u_9.2.2.2])), (oc, .inr (0, [.int lf, .ref oac, .int cr.2])), (oac, .inl (cIc, 600, .inl cr.1))] H := hP
          have hD : va_D A [(ox, .inr (2, [.int st, .int lf, .int ao, .ref ow, .ref og, .ref oc, .ref od, .int 0])), (ow, .inr (0, [.int lf, .ref oaw, .int wr.2])), (oaw, .inl (cIw, 600, .inl wr.1)), (og, .inr (1, [.ref ow, .int st, .int sib, .int tw.1, .int tw.2.1, .int tw.2.2.1, .int tw.2.2.2])), (od, .inr (1, [.ref oc, .int st, .int sib, .int u_9.1, .int u_9.2.1, .int u_9.2.2.1, .int u_9.2.2.2])), (oc, .inr (0, [.int lf, .ref oac, .int cr.2])), (oac, .inl (cIc, 600, .inl cr.1))] := hD
          refine lv_iload hx hb dX2_get_90 (lv_at hl 0 rfl) ?_
          refine lv_i2l (v := r_1.toInt64) hx hb dX2_get_92 rfl ?_
          have hP9 := hP.sub (ws' := [(ox, .inr (2, [.int st, .int lf, .int ao, .ref ow, .ref og, .ref oc, .ref od, .int 0])), (ow, .inr (0, [.int lf, .ref oaw, .int wr.2])), (oaw, .inl (cIw, 600, .inl wr.1)), (og, .inr (1, [.ref ow, .int st, .int sib, .int tw.1, .int tw.2.1, .int tw.2.2.1, .int tw.2.2.2])), (oc, .inr (0, [.int lf, .ref oac, .int cr.2])), (oac, .inl (cIc, 600, .inl cr.1)), (od, .inr (1, [.ref oc, .int st, .int sib, .int u_9.1, .int u_9.2.1, .int u_9.2.2.1, .int u_9.2.2.2]))]) [0, 1, 2, 3, 5, 6, 4] rfl
          have hD9 := hD.sub (ws' := [(ox, .inr (2, [.int st, .int lf, .int ao, .ref ow, .ref og, .ref oc, .ref od, .int 0])), (ow, .inr (0, [.int lf, .ref oaw, .int wr.2])), (oaw, .inl (cIw, 600, .inl wr.1)), (og, .inr (1, [.ref ow, .int st, .int sib, .int tw.1, .int tw.2.1, .int tw.2.2.1, .int tw.2.2.2])), (oc, .inr (0, [.int lf, .ref oac, .int cr.2])), (oac, .inl (cIc, 600, .inl cr.1)), (od, .inr (1, [.ref oc, .int st, .int sib, .int u_9.1, .int u_9.2.1, .int u_9.2.2.1, .int u_9.2.2.2]))]) [0, 1, 2, 3, 5, 6, 4] (by decide) rfl
          refine vx_ret ?_
          refine W.widen (k := 1) (n := 6) (by omega) (by omega) ?_
          exact W.lret (v := r_1.toInt64) hx hb hr (fun t ht hW => ⟨⟨r_1.toInt64, (u_9, 0), rfl, ((plX2_get_l46_2 st lf ao sib n wr tw cr tr bad p0 pl sf on fd i c_49 _ _ hw_2 c_60 _ hw_8 c_79).trans hz), by rw [ht]; exact hP9, hD9⟩, hS.F ht⟩) hS.2.2 dX2_get_93
        · refine lv_iconst (v := 1) hx hb dX2_get_82 (by decide) ?_
          refine lv_goto (tgt := 87) hx hb dX2_get_83 (by decide) ?_
          refine va_put (D := (dC, dI)) (ci := 2) (v := .int 1) (ty := .boolean) (C := RX2) (T := TX2) (N := 8) hx hb hts inGX2 tyX2 tyX2_ok nmX2 hown hK hP hD hS 0 rfl rfl 7 (by decide) (hts _ wd105) (fun _ h9 => h9) rfl (by decide +kernel) rfl rfl (Nat.le_of_ble_eq_true rfl) dX2_get_87 (fun H locs hP hD hS => ?_)
          have hP : va_P (dC, dI) vwCl [(ox, .inr (2, [.int st, .int lf, .int ao, .ref ow, .ref og, .ref oc, .ref od, .int 1])), (ow, .inr (0, [.int lf, .ref oaw, .int wr.2])), (oaw, .inl (cIw, 600, .inl wr.1)), (og, .inr (1, [.ref ow, .int st, .int sib, .int tw.1, .int tw.2.1, .int tw.2.2.1, .int tw.2.2.2])), (od, .inr (1, [.ref oc, .int st, .int sib, .int u_9.1, .int u_9.2.1, .int u_9.2.2.1, .int u_9.2.2.2])), (oc, .inr (0, [.int lf, .ref oac, .int cr.2])), (oac, .inl (cIc, 600, .inl cr.1))] H := hP
          have hD : va_D A [(ox, .inr (2, [.int st, .int lf, .int ao, .ref ow, .ref og, .ref oc, .ref od, .int 1])), (ow, .inr (0, [.int lf, .ref oaw, .int wr.2])), (oaw, .inl (cIw, 600, .inl wr.1)), (og, .inr (1, [.ref ow, .int st, .int sib, .int tw.1, .int tw.2.1, .int tw.2.2.1, .int tw.2.2.2])), (od, .inr (1, [.ref oc, .int st, .int sib, .int u_9.1, .int u_9.2.1, .int u_9.2.2.1, .int u_9.2.2.2])), (oc, .inr (0, [.int lf, .ref oac, .int cr.2])), (oac, .inl (cIc, 600, .inl cr.1))] := hD
          refine lv_iload hx hb dX2_get_90 (lv_at hl 0 rfl) ?_
          refine lv_i2l (v := r_1.toInt64) hx hb dX2_get_92 rfl ?_
          have hP9 := hP.sub (ws' := [(ox, .inr (2, [.int st, .int lf, .int ao, .ref ow, .ref og, .ref oc, .ref od, .int 1])), (ow, .inr (0, [.int lf, .ref oaw, .int wr.2])), (oaw, .inl (cIw, 600, .inl wr.1)), (og, .inr (1, [.ref ow, .int st, .int sib, .int tw.1, .int tw.2.1, .int tw.2.2.1, .int tw.2.2.2])), (oc, .inr (0, [.int lf, .ref oac, .int cr.2])), (oac, .inl (cIc, 600, .inl cr.1)), (od, .inr (1, [.ref oc, .int st, .int sib, .int u_9.1, .int u_9.2.1, .int u_9.2.2.1, .int u_9.2.2.2]))]) [0, 1, 2, 3, 5, 6, 4] rfl
          have hD9 := hD.sub (ws' := [(ox, .inr (2, [.int st, .int lf, .int ao, .ref ow, .ref og, .ref oc, .ref od, .int 1])), (ow, .inr (0, [.int lf, .ref oaw, .int wr.2])), (oaw, .inl (cIw, 600, .inl wr.1)), (og, .inr (1, [.ref ow, .int st, .int sib, .int tw.1, .int tw.2.1, .int tw.2.2.1, .int tw.2.2.2])), (oc, .inr (0, [.int lf, .ref oac, .int cr.2])), (oac, .inl (cIc, 600, .inl cr.1)), (od, .inr (1, [.ref oc, .int st, .int sib, .int u_9.1, .int u_9.2.1, .int u_9.2.2.1, .int u_9.2.2.2]))]) [0, 1, 2, 3, 5, 6, 4] (by decide) rfl
          refine vx_ret ?_
          refine W.widen (k := 1) (n := 6) (by omega) (by omega) ?_
          exact W.lret (v := r_1.toInt64) hx hb hr (fun t ht hW => ⟨⟨r_1.toInt64, (u_9, 1), rfl, ((plX2_get_l46_3 st lf ao sib n wr tw cr tr bad p0 pl sf on fd i c_49 _ _ hw_2 c_60 _ hw_8 c_79).trans hz), by rw [ht]; exact hP9, hD9⟩, hS.F ht⟩) hS.2.2 dX2_get_93
set_option maxHeartbeats 4000000 in
set_option maxRecDepth 100000 in
theorem mX2_get (l : Launch) (hlt : l.stackTraces = false) (dC : Nat → ClassId) (dI : Nat → Nat → Nat) (cIw cIc : ClassId) (ox ow oaw og oc oac od : Nat) (sz : Nat) (st : Int32) (lf : Int32) (ao : Int32) (sib : Int32) (wr : Rw) (tw : Tk) (cr : Rw) (tr : Tk) (bad : Int32) (p0 : Int32) : vx_Met l yX2_get (Cond.code yX2_get cX2_get 9 (some .long) :: G) ({ frames := 7, cells := 1, slots := 6, locals := 104 } : Room) (va_Pc [.ref ox, .int p0] (fun U => U.heap.size = sz ∧ va_P (dC, dI) vwCl [(ox, .inr (2, [.int st, .int lf, .int ao, .ref ow, .ref og, .ref oc, .ref od, .int bad])), (ow, .inr (0, [.int lf, .ref oaw, .int wr.2])), (oaw, .inl (cIw, 600, .inl wr.1)), (og, .inr (1, [.ref ow, .int st, .int sib, .int tw.1, .int tw.2.1, .int tw.2.2.1, .int tw.2.2.2])), (oc, .inr (0, [.int lf, .ref oac, .int cr.2])), (oac, .inl (cIc, 600, .inl cr.1)), (od, .inr (1, [.ref oc, .int st, .int sib, .int tr.1, .int tr.2.1, .int tr.2.2.1, .int tr.2.2.2]))] U.heap ∧ va_K (dC, dI) vwCl [(cIw, .int), (cIc, .int)] U ∧ va_D (fun _ => True) [(ox, .inr (2, [.int st, .int lf, .int ao, .ref ow, .ref og, .ref oc, .ref od, .int bad])), (ow, .inr (0, [.int lf, .ref oaw, .int wr.2])), (oaw, .inl (cIw, 600, .inl wr.1)), (og, .inr (1, [.ref ow, .int st, .int sib, .int tw.1, .int tw.2.1, .int tw.2.2.1, .int tw.2.2.2])), (oc, .inr (0, [.int lf, .ref oac, .int cr.2])), (oac, .inl (cIc, 600, .inl cr.1)), (od, .inr (1, [.ref oc, .int st, .int sib, .int tr.1, .int tr.2.1, .int tr.2.2.1, .int tr.2.2.2]))] ∧ zOk U ∧ zSt (va_A [(ox, .inr (2, [.int st, .int lf, .int ao, .ref ow, .ref og, .ref oc, .ref od, .int bad])), (ow, .inr (0, [.int lf, .ref oaw, .int wr.2])), (oaw, .inl (cIw, 600, .inl wr.1)), (og, .inr (1, [.ref ow, .int st, .int sib, .int tw.1, .int tw.2.1, .int tw.2.2.1, .int tw.2.2.2])), (oc, .inr (0, [.int lf, .ref oac, .int cr.2])), (oac, .inl (cIc, 600, .inl cr.1)), (od, .inr (1, [.ref oc, .int st, .int sib, .int tr.1, .int tr.2.1, .int tr.2.2.1, .int tr.2.2.2]))] sz) U U.heap)) (va_Ql (fun (r : Int64) (u : Tk × Int32) => Sum.inr (r, u) = (FX2_get st lf ao sib wr tw cr tr bad p0)) (fun (u : Tk × Int32) (t : State) => va_P (dC, dI) vwCl [(ox, .inr (2, [.int st, .int lf, .int ao, .ref ow, .ref og, .ref oc, .ref od, .int u.2])), (ow, .inr (0, [.int lf, .ref oaw, .int wr.2])), (oaw, .inl (cIw, 600, .inl wr.1)), (og, .inr (1, [.ref ow, .int st, .int sib, .int tw.1, .int tw.2.1, .int tw.2.2.1, .int tw.2.2.2])), (oc, .inr (0, [.int lf, .ref oac, .int cr.2])), (oac, .inl (cIc, 600, .inl cr.1)), (od, .inr (1, [.ref oc, .int st, .int sib, .int u.1.1, .int u.1.2.1, .int u.1.2.2.1, .int u.1.2.2.2]))] t.heap ∧ va_D (va_A [(ox, .inr (2, [.int st, .int lf, .int ao, .ref ow, .ref og, .ref oc, .ref od, .int bad])), (ow, .inr (0, [.int lf, .ref oaw, .int wr.2])), (oaw, .inl (cIw, 600, .inl wr.1)), (og, .inr (1, [.ref ow, .int st, .int sib, .int tw.1, .int tw.2.1, .int tw.2.2.1, .int tw.2.2.2])), (oc, .inr (0, [.int lf, .ref oac, .int cr.2])), (oac, .inl (cIc, 600, .inl cr.1)), (od, .inr (1, [.ref oc, .int st, .int sib, .int tr.1, .int tr.2.1, .int tr.2.2.1, .int tr.2.2.2]))] sz) [(ox, .inr (2, [.int st, .int lf, .int ao, .ref ow, .ref og, .ref oc, .ref od, .int u.2])), (ow, .inr (0, [.int lf, .ref oaw, .int wr.2])), (oaw, .inl (cIw, 600, .inl wr.1)), (og, .inr (1, [.ref ow, .int st, .int sib, .int tw.1, .int tw.2.1, .int tw.2.2.1, .int tw.2.2.2])), (oc, .inr (0, [.int lf, .ref oac, .int cr.2])), (oac, .inl (cIc, 600, .inl cr.1)), (od, .inr (1, [.ref oc, .int st, .int sib, .int u.1.1, .int u.1.2.1, .int u.1.2.2.1, .int u.1.2.2.2]))]) (va_A [(ox, .inr (2, [.int st, .int lf, .int ao, .ref ow, .ref og, .ref oc, .ref od, .int bad])), (ow, .inr (0, [.int lf, .ref oaw, .int wr.2])), (oaw, .inl (cIw, 600, .inl wr.1)), (og, .inr (1, [.ref ow, .int st, .int sib, .int tw.1, .int tw.2.1, .int tw.2.2.1, .int tw.2.2.2])), (oc, .inr (0, [.int lf, .ref oac, .int cr.2])), (oac, .inl (cIc, 600, .inl cr.1)), (od, .inr (1, [.ref oc, .int st, .int sib, .int tr.1, .int tr.2.1, .int tr.2.2.1, .int tr.2.2.2]))] sz)) (vx_X (fun (_ : Unit) => True) (fun E _ t => Sum.inl E = (FX2_get st lf ao sib wr tw cr tr bad p0) ∧ va_P (dC, dI) vwCl [(ox, .inr (2, [.int st, .int lf, .int ao, .ref ow, .ref og, .ref oc, .ref od, .int bad])), (ow, .inr (0, [.int lf, .ref oaw, .int wr.2])), (oaw, .inl (cIw, 600, .inl wr.1)), (og, .inr (1, [.ref ow, .int st, .int sib, .int tw.1, .int tw.2.1, .int tw.2.2.1, .int tw.2.2.2])), (oc, .inr (0, [.int lf, .ref oac, .int cr.2])), (oac, .inl (cIc, 600, .inl cr.1)), (od, .inr (1, [.ref oc, .int st, .int sib, .int tr.1, .int tr.2.1, .int tr.2.2.1, .int tr.2.2.2]))] t.heap ∧ va_D (va_A [(ox, .inr (2, [.int st, .int lf, .int ao, .ref ow, .ref og, .ref oc, .ref od, .int bad])), (ow, .inr (0, [.int lf, .ref oaw, .int wr.2])), (oaw, .inl (cIw, 600, .inl wr.1)), (og, .inr (1, [.ref ow, .int st, .int sib, .int tw.1, .int tw.2.1, .int tw.2.2.1, .int tw.2.2.2])), (oc, .inr (0, [.int lf, .ref oac, .int cr.2])), (oac, .inl (cIc, 600, .inl cr.1)), (od, .inr (1, [.ref oc, .int st, .int sib, .int tr.1, .int tr.2.1, .int tr.2.2.1, .int tr.2.2.2]))] sz) [(ox, .inr (2, [.int st, .int lf, .int ao, .ref ow, .ref og, .ref oc, .ref od, .int bad])), (ow, .inr (0, [.int lf, .ref oaw, .int wr.2])), (oaw, .inl (cIw, 600, .inl wr.1)), (og, .inr (1, [.ref ow, .int st, .int sib, .int tw.1, .int tw.2.1, .int tw.2.2.1, .int tw.2.2.2])), (oc, .inr (0, [.int lf, .ref oac, .int cr.2])), (oac, .inl (cIc, 600, .inl cr.1)), (od, .inr (1, [.ref oc, .int st, .int sib, .int tr.1, .int tr.2.1, .int tr.2.2.1, .int tr.2.2.2]))]) (va_A [(ox, .inr (2, [.int st, .int lf, .int ao, .ref ow, .ref og, .ref oc, .ref od, .int bad])), (ow, .inr (0, [.int lf, .ref oaw, .int wr.2])), (oaw, .inl (cIw, 600, .inl wr.1)), (og, .inr (1, [.ref ow, .int st, .int sib, .int tw.1, .int tw.2.1, .int tw.2.2.1, .int tw.2.2.2])), (oc, .inr (0, [.int lf, .ref oac, .int cr.2])), (oac, .inl (cIc, 600, .inl cr.1)), (od, .inr (1, [.ref oc, .int st, .int sib, .int tr.1, .int tr.2.1, .int tr.2.2.1, .int tr.2.2.2]))] sz)) 1 6 (va_A [(ox, .inr (2, [.int st, .int lf, .int ao, .ref ow, .ref og, .ref oc, .ref od, .int bad])), (ow, .inr (0, [.int lf, .ref oaw, .int wr.2])), (oaw, .inl (cIw, 600, .inl wr.1)), (og, .inr (1, [.ref ow, .int st, .int sib, .int tw.1, .int tw.2.1, .int tw.2.2.1, .int tw.2.2.2])), (oc, .inr (0, [.int lf, .ref oac, .int cr.2])), (oac, .inl (cIc, 600, .inl cr.1)), (od, .inr (1, [.ref oc, .int st, .int sib, .int tr.1, .int tr.2.1, .int tr.2.2.1, .int tr.2.2.2]))] sz) := by
  refine vx_ofW (cc := cX2_get) (maxL := 9) (ret := (some .long)) (by decide) rfl ?_
  intro p e s m args below meth c s₁ B hml hE hv
  obtain ⟨rfl, hsz, hP, hK, hD0, hZ, hQ⟩ := hv
  have hx := B.exec
  have hb := B.bytes
  have hr := B.returns
  have hts : ∀ w ∈ G, w.before [.ref ox, .int p0].toArray s = true := fun w h => atoms_spec (ws := (Cond.code yX2_get cX2_get 9 (some .long) :: G)) B.pre w (List.mem_cons_of_mem _ h)
  have hown : s.vm.findClass RX2 = some m.cls := findClass_of_methodNamed B.named
  have hlocks := B.notSynchronized
  subst hsz
  have hD := hD0.self (sz := s.heap.size)
  generalize hAe : va_A [(ox, .inr (2, [.int st, .int lf, .int ao, .ref ow, .ref og, .ref oc, .ref od, .int bad])), (ow, .inr (0, [.int lf, .ref oaw, .int wr.2])), (oaw, .inl (cIw, 600, .inl wr.1)), (og, .inr (1, [.ref ow, .int st, .int sib, .int tw.1, .int tw.2.1, .int tw.2.2.1, .int tw.2.2.2])), (oc, .inr (0, [.int lf, .ref oac, .int cr.2])), (oac, .inl (cIc, 600, .inl cr.1)), (od, .inr (1, [.ref oc, .int st, .int sib, .int tr.1, .int tr.2.1, .int tr.2.2.1, .int tr.2.2.2]))] s.heap.size = A at hD hQ ⊢
  have hA : ∀ q : Nat, s.heap.size ≤ q → A q := fun q h => by rw [← hAe]; exact Or.inr h
  have hS : va_S A s.heap s.heap [] := va_S.rf
  have hP : va_P (dC, dI) vwCl [(ox, .inr (2, [.int st, .int lf, .int ao, .ref ow, .ref og, .ref oc, .ref od, .int bad])), (ow, .inr (0, [.int lf, .ref oaw, .int wr.2])), (oaw, .inl (cIw, 600, .inl wr.1)), (og, .inr (1, [.ref ow, .int st, .int sib, .int tw.1, .int tw.2.1, .int tw.2.2.1, .int tw.2.2.2])), (oc, .inr (0, [.int lf, .ref oac, .int cr.2])), (oac, .inl (cIc, 600, .inl cr.1)), (od, .inr (1, [.ref oc, .int st, .int sib, .int tr.1, .int tr.2.1, .int tr.2.2.1, .int tr.2.2.2]))] s.heap := hP
  have hl := lv_entry ([.ref ox, .int p0]) (n := 9) (Nat.le_of_ble_eq_true rfl)
  rw [lg_entry_eq]
  generalize (lg_sl ([.ref ox, .int p0]) ++ List.replicate (9 - (lg_sl ([.ref ox, .int p0])).length) Slot.unset).toArray = ls at hl ⊢
  have hl : lv_has ls 9 [(0, .ref ox), (1, .int p0)] := hl
  refine lv_iload_n hx hb dX2_get_0 rfl (lv_at hl 1 rfl) ?_
  have hPc := hP.sub (ws' := []) [] rfl
  have hKc := hK.sub (tys' := []) [] rfl
  have hDc := hD.sub (ws' := []) [] (by decide) rfl
  have hFc := va_free (wc := []) hD hS hA [] rfl
  refine vx_callv (vx_runS (As := [.int p0]) (rest := []) ⟨hx, hb, hml, hown, hts⟩ (mX2_refuseOtherWidths l hlt dC dI s.heap.size p0) (va_cwS 1 hts (gS wd211 wd212 wd26 wd213) rfl rfl rfl (by decide +kernel) ⟨Nat.le_of_ble_eq_true rfl, Nat.le_of_ble_eq_true rfl⟩) ⟨fb_x, pre_x hPc hKc hDc hZ hQ hS hFc⟩ rfl rfl hl.1 rfl (lv_room (Nat.le_of_ble_eq_true rfl)) dX2_get_1 ⟨Nat.le_of_ble_eq_true rfl, Nat.le_of_ble_eq_true rfl⟩) hS (fun q _ h => hFc q h) hFc (fun q _ h => hFc q h) (fun E_3 ce q9 u9 t H1 locs ht hvm hpx hBX hz1 hk1 hS hcell hcv hcl => ?_) (fun u_2 t H1 locs ht hvm hw_1 hB hz1 hk1 hS => ?_)
  · obtain ⟨hw_1, hP1, hD1⟩ := hBX
    rw [ht] at hP1
    obtain ⟨hP, hD⟩ := va_join (wr := [(ox, .inr (2, [.int st, .int lf, .int ao, .ref ow, .ref og, .ref oc, .ref od, .int bad])), (ow, .inr (0, [.int lf, .ref oaw, .int wr.2])), (oaw, .inl (cIw, 600, .inl wr.1)), (og, .inr (1, [.ref ow, .int st, .int sib, .int tw.1, .int tw.2.1, .int tw.2.2.1, .int tw.2.2.2])), (oc, .inr (0, [.int lf, .ref oac, .int cr.2])), (oac, .inl (cIc, 600, .inl cr.1)), (od, .inr (1, [.ref oc, .int st, .int sib, .int tr.1, .int tr.2.1, .int tr.2.2.1, .int tr.2.2.2]))]) (w1 := []) hP hD [] [0, 1, 2, 3, 4, 5, 6] rfl rfl (by decide) (by decide) hk1 hFc hP1 hD1
    have hP9 := hP.sub (ws' := [(ox, .inr (2, [.int st, .int lf, .int ao, .ref ow, .ref og, .ref oc, .ref od, .int bad])), (ow, .inr (0, [.int lf, .ref oaw, .int wr.2])), (oaw, .inl (cIw, 600, .inl wr.1)), (og, .inr (1, [.ref ow, .int st, .int sib, .int tw.1, .int tw.2.1, .int tw.2.2.1, .int tw.2.2.2])), (oc, .inr (0, [.int lf, .ref oac, .int cr.2])), (oac, .inl (cIc, 600, .inl cr.1)), (od, .inr (1, [.ref oc, .int st, .int sib, .int tr.1, .int tr.2.1, .int tr.2.2.1, .int tr.2.2.2]))]) [0, 1, 2, 3, 4, 5, 6] rfl
    have hD9 := hD.sub (ws' := [(ox, .inr (2, [.int st, .int lf, .int ao, .ref ow, .ref og, .ref oc, .ref od, .int bad])), (ow, .inr (0, [.int lf, .ref oaw, .int wr.2])), (oaw, .inl (cIw, 600, .inl wr.1)), (og, .inr (1, [.ref ow, .int st, .int sib, .int tw.1, .int tw.2.1, .int tw.2.2.1, .int tw.2.2.2])), (oc, .inr (0, [.int lf, .ref oac, .int cr.2])), (oac, .inl (cIc, 600, .inl cr.1)), (od, .inr (1, [.ref oc, .int st, .int sib, .int tr.1, .int tr.2.1, .int tr.2.2.1, .int tr.2.2.2]))]) [0, 1, 2, 3, 4, 5, 6] (by decide) rfl
    exact vx_out (fun x h => (hE x h).elim) hlocks hcell hcv hcl (fun t2 ht2 hvm2 => ⟨(), trivial, ⟨(plX2_get_0 st lf ao sib wr tw cr tr bad p0 _ hw_1), by rw [ht2]; exact hP9, hD9⟩, hS.F ht2⟩) hS.2.2 (by omega) (by omega)
  obtain ⟨hP1, hD1⟩ := hB
  rw [ht] at hP1
  obtain ⟨hP, hD⟩ := va_join (wr := [(ox, .inr (2, [.int st, .int lf, .int ao, .ref ow, .ref og, .ref oc, .ref od, .int bad])), (ow, .inr (0, [.int lf, .ref oaw, .int wr.2])), (oaw, .inl (cIw, 600, .inl wr.1)), (og, .inr (1, [.ref ow, .int st, .int sib, .int tw.1, .int tw.2.1, .int tw.2.2.1, .int tw.2.2.2])), (oc, .inr (0, [.int lf, .ref oac, .int cr.2])), (oac, .inl (cIc, 600, .inl cr.1)), (od, .inr (1, [.ref oc, .int st, .int sib, .int tr.1, .int tr.2.1, .int tr.2.2.1, .int tr.2.2.2]))]) (w1 := []) hP hD [] [0, 1, 2, 3, 4, 5, 6] rfl rfl (by decide) (by decide) hk1 hFc hP1 hD1
  generalize H1 = H at hP hS ⊢
  have hP : va_P (dC, dI) vwCl [(ox, .inr (2, [.int st, .int lf, .int ao, .ref ow, .ref og, .ref oc, .ref od, .int bad])), (ow, .inr (0, [.int lf, .ref oaw, .int wr.2])), (oaw, .inl (cIw, 600, .inl wr.1)), (og, .inr (1, [.ref ow, .int st, .int sib, .int tw.1, .int tw.2.1, .int tw.2.2.1, .int tw.2.2.2])), (oc, .inr (0, [.int lf, .ref oac, .int cr.2])), (oac, .inl (cIc, 600, .inl cr.1)), (od, .inr (1, [.ref oc, .int st, .int sib, .int tr.1, .int tr.2.1, .int tr.2.2.1, .int tr.2.2.2]))] H := hP
  have hD : va_D A [(ox, .inr (2, [.int st, .int lf, .int ao, .ref ow, .ref og, .ref oc, .ref od, .int bad])), (ow, .inr (0, [.int lf, .ref oaw, .int wr.2])), (oaw, .inl (cIw, 600, .inl wr.1)), (og, .inr (1, [.ref ow, .int st, .int sib, .int tw.1, .int tw.2.1, .int tw.2.2.1, .int tw.2.2.2])), (oc, .inr (0, [.int lf, .ref oac, .int cr.2])), (oac, .inl (cIc, 600, .inl cr.1)), (od, .inr (1, [.ref oc, .int st, .int sib, .int tr.1, .int tr.2.1, .int tr.2.2.1, .int tr.2.2.2]))] := hD
  refine W.widen (k := 1) (n := 6) (by omega) (by omega) ?_
  refine lv_aload_n hx hb dX2_get_4 rfl (lv_at hl 0 rfl) ?_
  refine va_get (D := (dC, dI)) (ci := 2) (v := .int bad) (C := RX2) (T := TX2) (N := 8) hx hb hts inGX2 hown hK hP 0 rfl rfl 7 (by decide) (hts _ wd105) (fun _ h9 => h9) rfl dX2_get_5 ?_
  refine lv_if_eq (tgt := 15) hx hb dX2_get_8 (by decide) (fun c_8 => ?_) (fun c_8 => ?_)
  · refine lv_aload_n hx hb dX2_get_15 rfl (lv_at hl 0 rfl) ?_
    refine va_get (D := (dC, dI)) (ci := 2) (v := .ref od) (C := RX2) (T := TX2) (N := 8) hx hb hts inGX2 hown hK hP 0 rfl rfl 6 (by decide) (hts _ wd104) (fun _ h9 => h9) rfl dX2_get_16 ?_
    refine va_getN (D := (dC, dI)) (ci := 1) (v := .int tr.1) (C := RX1) (T := TX1) (N := 7) hx hb hts inGX1 hown hK hP 6 rfl rfl 3 (by decide) (hZ.use zw2 rfl) (fun _ h9 => h9) rfl dX2_get_19 ?_
    refine lv_istore_n (lv' := [(2, .int tr.1), (0, .ref ox), (1, .int p0)]) hx hb dX2_get_22 rfl hl (by decide) rfl (fun ls hl => ?_)
    refine lv_aload_n hx hb dX2_get_23 rfl (lv_at hl 1 rfl) ?_
    refine va_get (D := (dC, dI)) (ci := 2) (v := .ref od) (C := RX2) (T := TX2) (N := 8) hx hb hts inGX2 hown hK hP 0 rfl rfl 6 (by decide) (hts _ wd104) (fun _ h9 => h9) rfl dX2_get_24 ?_
    refine va_getN (D := (dC, dI)) (ci := 1) (v := .int tr.2.1) (C := RX1) (T := TX1) (N := 7) hx hb hts inGX1 hown hK hP 6 rfl rfl 4 (by decide) (hZ.use zw3 rfl) (fun _ h9 => h9) rfl dX2_get_27 ?_
    refine lv_istore_n (lv' := [(3, .int tr.2.1), (2, .int tr.1), (0, .ref ox), (1, .int p0)]) hx hb dX2_get_30 rfl hl (by decide) rfl (fun ls hl => ?_)
    refine lv_aload_n hx hb dX2_get_31 rfl (lv_at hl 2 rfl) ?_
    refine va_get (D := (dC, dI)) (ci := 2) (v := .ref od) (C := RX2) (T := TX2) (N := 8) hx hb hts inGX2 hown hK hP 0 rfl rfl 6 (by decide) (hts _ wd104) (fun _ h9 => h9) rfl dX2_get_32 ?_
    refine va_getN (D := (dC, dI)) (ci := 1) (v := .int tr.2.2.1) (C := RX1) (T := TX1) (N := 7) hx hb hts inGX1 hown hK hP 6 rfl rfl 5 (by decide) (hZ.use zw4 rfl) (fun _ h9 => h9) rfl dX2_get_35 ?_
    refine lv_istore (lv' := [(4, .int tr.2.2.1), (3, .int tr.2.1), (2, .int tr.1), (0, .ref ox), (1, .int p0)]) hx hb dX2_get_38 hl (by decide) rfl (fun ls hl => ?_)
    refine lv_lconst (v := 0) hx hb dX2_get_40 (by decide) ?_
    refine lv_lstore (lv' := [(5, .long 0), (4, .int tr.2.2.1), (3, .int tr.2.1), (2, .int tr.1), (0, .ref ox), (1, .int p0)]) hx hb dX2_get_41 hl (by decide) rfl (fun ls hl => ?_)
    refine lv_iconst (v := 0) hx hb dX2_get_43 (by decide) ?_
    refine lv_istore (lv' := [(7, .int 0), (5, .long 0), (4, .int tr.2.2.1), (3, .int tr.2.1), (2, .int tr.1), (0, .ref ox), (1, .int p0)]) hx hb dX2_get_44 hl (by decide) rfl (fun ls hl => ?_)
    exact kX2_get_46 hx hb hr hml hown hts hlocks hA hZ hK (fz 0 p0) wr tw cr tr bad p0 tr.1 tr.2.1 tr.2.2.1 0 0 (fz_ok _ _) (plX2_get_1 st lf ao sib wr tw cr tr bad p0 hw_1 c_8) _ _ (hP.sub (ws' := [(ox, .inr (2, [.int st, .int lf, .int ao, .ref ow, .ref og, .ref oc, .ref od, .int bad])), (ow, .inr (0, [.int lf, .ref oaw, .int wr.2])), (oaw, .inl (cIw, 600, .inl wr.1)), (og, .inr (1, [.ref ow, .int st, .int sib, .int tw.1, .int tw.2.1, .int tw.2.2.1, .int tw.2.2.2])), (oc, .inr (0, [.int lf, .ref oac, .int cr.2])), (oac, .inl (cIc, 600, .inl cr.1)), (od, .inr (1, [.ref oc, .int st, .int sib, .int tr.1, .int tr.2.1, .int tr.2.2.1, .int tr.2.2.2]))]) [0, 1, 2, 3, 4, 5, 6] rfl) (hD.sub (ws' := [(ox, .inr (2, [.int st, .int lf, .int ao, .ref ow, .ref og, .ref oc, .ref od, .int bad])), (ow, .inr (0, [.int lf, .ref oaw, .int wr.2])), (oaw, .inl (cIw, 600, .inl wr.1)), (og, .inr (1, [.ref ow, .int st, .int sib, .int tw.1, .int tw.2.1, .int tw.2.2.1, .int tw.2.2.2])), (oc, .inr (0, [.int lf, .ref oac, .int cr.2])), (oac, .inl (cIc, 600, .inl cr.1)), (od, .inr (1, [.ref oc, .int st, .int sib, .int tr.1, .int tr.2.1, .int tr.2.2.1, .int tr.2.2.2]))]) [0, 1, 2, 3, 4, 5, 6] (by decide) rfl) hS ls (lv_sub hl [5, 6, 4, 3, 2, 1, 0] rfl)
  · refine lv_ldc2 (v := (-3)) hx hb hown (hts _ wd391) dX2_get_11 ?_
    have hP9 := hP.sub (ws' := [(ox, .inr (2, [.int st, .int lf, .int ao, .ref ow, .ref og, .ref oc, .ref od, .int bad])), (ow, .inr (0, [.int lf, .ref oaw, .int wr.2])), (oaw, .inl (cIw, 600, .inl wr.1)), (og, .inr (1, [.ref ow, .int st, .int sib, .int tw.1, .int tw.2.1, .int tw.2.2.1, .int tw.2.2.2])), (oc, .inr (0, [.int lf, .ref oac, .int cr.2])), (oac, .inl (cIc, 600, .inl cr.1)), (od, .inr (1, [.ref oc, .int st, .int sib, .int tr.1, .int tr.2.1, .int tr.2.2.1, .int tr.2.2.2]))]) [0, 1, 2, 3, 4, 5, 6] rfl
    have hD9 := hD.sub (ws' := [(ox, .inr (2, [.int st, .int lf, .int ao, .ref ow, .ref og, .ref oc, .ref od, .int bad])), (ow, .inr (0, [.int lf, .ref oaw, .int wr.2])), (oaw, .inl (cIw, 600, .inl wr.1)), (og, .inr (1, [.ref ow, .int st, .int sib, .int tw.1, .int tw.2.1, .int tw.2.2.1, .int tw.2.2.2])), (oc, .inr (0, [.int lf, .ref oac, .int cr.2])), (oac, .inl (cIc, 600, .inl cr.1)), (od, .inr (1, [.ref oc, .int st, .int sib, .int tr.1, .int tr.2.1, .int tr.2.2.1, .int tr.2.2.2]))]) [0, 1, 2, 3, 4, 5, 6] (by decide) rfl
    refine vx_ret ?_
    refine W.widen (k := 1) (n := 6) (by omega) (by omega) ?_
    exact W.lret (v := (-3)) hx hb hr (fun t ht hW => ⟨⟨(-3), (tr, bad), rfl, (plX2_get_2 st lf ao sib wr tw cr tr bad p0 hw_1 c_8), by rw [ht]; exact hP9, hD9⟩, hS.F ht⟩) hS.2.2 dX2_get_14
def LX2_find_27 (st : Int32) (lf : Int32) (ao : Int32) (sib : Int32) : Nat → Rw → Tk → Rw → Tk → Int32 → Int32 → Int32 → String ⊕ Int32
  | 0, wr, tw, cr, tr, bad, p0, i => Sum.inr 0
  | n + 1, wr, tw, cr, tr, bad, p0, i =>
    if cr.2 ≤ i then
      Sum.inr (-1)
    else
      let r_1 := FX0_isMarkAt lf cr i
      if r_1 = 0 then
        let i_3 := i + 1
        LX2_find_27 st lf ao sib n wr tw cr tr bad p0 i_3
      else
        Sum.inr i
def FX2_find (st : Int32) (lf : Int32) (ao : Int32) (sib : Int32) (wr : Rw) (tw : Tk) (cr : Rw) (tr : Tk) (bad : Int32) (p0 : Int32) : String ⊕ Int32 :=
  if p0 < 0 then
    Sum.inl "java/lang/IndexOutOfBoundsException"
  else
    if p0 ≤ cr.2 then
      LX2_find_27 st lf ao sib (fz p0 cr.2) wr tw cr tr bad p0 p0
    else
      Sum.inl "java/lang/IndexOutOfBoundsException"
set_option maxRecDepth 100000 in
theorem plX2_find_l27_0 (st : Int32) (lf : Int32) (ao : Int32) (sib : Int32) (n : Nat) (wr : Rw) (tw : Tk) (cr : Rw) (tr : Tk) (bad : Int32) (p0 : Int32) (i : Int32) (c_35 : cr.2 ≤ i) : Sum.inr (-1) = LX2_find_27 st lf ao sib (n + 1) wr tw cr tr bad p0 i := by
  exact (if_pos c_35).symm
set_option maxRecDepth 100000 in
theorem plX2_find_l27_1 (st : Int32) (lf : Int32) (ao : Int32) (sib : Int32) (n : Nat) (wr : Rw) (tw : Tk) (cr : Rw) (tr : Tk) (bad : Int32) (p0 : Int32) (i : Int32) (c_35 : ¬ (cr.2 ≤ i)) (r_1 : Int32) (hw_2 : r_1 = FX0_isMarkAt lf cr i) (c_46 : r_1 = 0) (i_3 : Int32) (ei_3 : i_3 = i + 1) : LX2_find_27 st lf ao sib n wr tw cr tr bad p0 i_3 = LX2_find_27 st lf ao sib (n + 1) wr tw cr tr bad p0 i := by
  subst hw_2
  subst ei_3
  exact ((if_neg c_35).trans (if_pos c_46)).symm
set_option maxRecDepth 100000 in
theorem plX2_find_l27_2 (st : Int32) (lf : Int32) (ao : Int32) (sib : Int32) (n : Nat) (wr : Rw) (tw : Tk) (cr : Rw) (tr : Tk) (bad : Int32) (p0 : Int32) (i : Int32) (c_35 : ¬ (cr.2 ≤ i)) (r_1 : Int32) (hw_2 : r_1 = FX0_isMarkAt lf cr i) (c_46 : ¬ (r_1 = 0)) : Sum.inr i = LX2_find_27 st lf ao sib (n + 1) wr tw cr tr bad p0 i := by
  subst hw_2
  exact ((if_neg c_35).trans (if_neg c_46)).symm
set_option maxRecDepth 100000 in
theorem plX2_find_0 (st : Int32) (lf : Int32) (ao : Int32) (sib : Int32) (wr : Rw) (tw : Tk) (cr : Rw) (tr : Tk) (bad : Int32) (p0 : Int32) (c_1 : p0 < 0) : Sum.inl "java/lang/IndexOutOfBoundsException" = FX2_find st lf ao sib wr tw cr tr bad p0 := by
  exact (if_pos c_1).symm
set_option maxRecDepth 100000 in
theorem plX2_find_1 (st : Int32) (lf : Int32) (ao : Int32) (sib : Int32) (wr : Rw) (tw : Tk) (cr : Rw) (tr : Tk) (bad : Int32) (p0 : Int32) (c_1 : ¬ (p0 < 0)) (c_12 : p0 ≤ cr.2) : LX2_find_27 st lf ao sib (fz p0 cr.2) wr tw cr tr bad p0 p0 = FX2_find st lf ao sib wr tw cr tr bad p0 := by
  exact ((if_neg c_1).trans (if_pos c_12)).symm
set_option maxRecDepth 100000 in
theorem plX2_find_2 (st : Int32) (lf : Int32) (ao : Int32) (sib : Int32) (wr : Rw) (tw : Tk) (cr : Rw) (tr : Tk) (bad : Int32) (p0 : Int32) (c_1 : ¬ (p0 < 0)) (c_12 : ¬ (p0 ≤ cr.2)) : Sum.inl "java/lang/IndexOutOfBoundsException" = FX2_find st lf ao sib wr tw cr tr bad p0 := by
  exact ((if_neg c_1).trans (if_neg c_12)).symm
set_option maxHeartbeats 4000000 in
set_option maxRecDepth 100000 in
theorem kX2_find_27 {p : Program} {l : Launch} {e : Env} {s : State} {m : MethodId} {args : Array Value} {below : List Frame} {meth : Method} {c : Code} {dC : Nat → ClassId} {dI : Nat → Nat → Nat} {cIw cIc : ClassId} {ox ow oaw og oc oac od : Nat} {st : Int32} {lf : Int32} {ao : Int32} {sib : Int32} {XC : String → State → State → Prop} {z : String ⊕ Int32} {A : Nat → Prop} (hx : p.tables.exec = Jvm.exec) (hb : c.code = cX2_find) (hr : meth.sig.returnType = (some .int)) (hml : c.maxLocals = 3) (hown : s.vm.findClass RX2 = some m.cls) (hts : ∀ w ∈ G, w.before args s = true) (hlocks : meth.locks = false) (hA : ∀ q : Nat, s.heap.size ≤ q → A q) (hZ : zOk s) (hK : va_K (dC, dI) vwCl [(cIw, .int), (cIc, .int)] s) : ∀ (n : Nat) (wr : Rw) (tw : Tk) (cr : Rw) (tr : Tk) (bad : Int32) (p0 : Int32) (i : Int32), (fuel n i cr.2) → LX2_find_27 st lf ao sib n wr tw cr tr bad p0 i = z → ∀ (H : Heap) (locs : List Loc), va_P (dC, dI) vwCl [(ox, .inr (2, [.int st, .int lf, .int ao, .ref ow, .ref og, .ref oc, .ref od, .int bad])), (ow, .inr (0, [.int lf, .ref oaw, .int wr.2])), (oaw, .inl (cIw, 600, .inl wr.1)), (og, .inr (1, [.ref ow, .int st, .int sib, .int tw.1, .int tw.2.1, .int tw.2.2.1, .int tw.2.2.2])), (oc, .inr (0, [.int lf, .ref oac, .int cr.2])), (oac, .inl (cIc, 600, .inl cr.1)), (od, .inr (1, [.ref oc, .int st, .int sib, .int tr.1, .int tr.2.1, .int tr.2.2.1, .int tr.2.2.2]))] H → va_D A [(ox, .inr (2, [.int st, .int lf, .int ao, .ref ow, .ref og, .ref oc, .ref od, .int bad])), (ow, .inr (0, [.int lf, .ref oaw, .int wr.2])), (oaw, .inl (cIw, 600, .inl wr.1)), (og, .inr (1, [.ref ow, .int st, .int sib, .int tw.1, .int tw.2.1, .int tw.2.2.1, .int tw.2.2.2])), (oc, .inr (0, [.int lf, .ref oac, .int cr.2])), (oac, .inl (cIc, 600, .inl cr.1)), (od, .inr (1, [.ref oc, .int st, .int sib, .int tr.1, .int tr.2.1, .int tr.2.2.1, .int tr.2.2.2]))] → va_S A s.heap H locs → ∀ (ls : Array Slot), lv_has ls 3 [(0, .ref ox), (1, .int p0), (2, .int i)] → W p l e (headSpec (Cond.code yX2_find cX2_find 3 (some .int) :: G) ({ frames := 6, cells := 1, slots := 6, locals := 82 } : Room)).room s m args below meth c H locs 0 0 (vx_MQ below (va_Qi (fun (r : Int32) (u : Unit) => Sum.inr r = z) (fun (u : Unit) (t : State) => va_P (dC, dI) vwCl [(ox, .inr (2, [.int st, .int lf, .int ao, .ref ow, .ref og, .ref oc, .ref od, .int bad])), (ow, .inr (0, [.int lf, .ref oaw, .int wr.2])), (oaw, .inl (cIw, 600, .inl wr.1)), (og, .inr (1, [.ref ow, .int st, .int sib, .int tw.1, .int tw.2.1, .int tw.2.2.1, .int tw.2.2.2])), (oc, .inr (0, [.int lf, .ref oac, .int cr.2])), (oac, .inl (cIc, 600, .inl cr.1)), (od, .inr (1, [.ref oc, .int st, .int sib, .int tr.1, .int tr.2.1, .int tr.2.2.1, .int tr.2.2.2]))] t.heap ∧ va_D A [(ox, .inr (2, [.int st, .int lf, .int ao, .ref ow, .ref og, .ref oc, .ref od, .int bad])), (ow, .inr (0, [.int lf, .ref oaw, .int wr.2])), (oaw, .inl (cIw, 600, .inl wr.1)), (og, .inr (1, [.ref ow, .int st, .int sib, .int tw.1, .int tw.2.1, .int tw.2.2.1, .int tw.2.2.2])), (oc, .inr (0, [.int lf, .ref oac, .int cr.2])), (oac, .inl (cIc, 600, .inl cr.1)), (od, .inr (1, [.ref oc, .int st, .int sib, .int tr.1, .int tr.2.1, .int tr.2.2.1, .int tr.2.2.2]))]) A) XC args s 1 6 A) (F0 m 27 ls []) := by
  intro n
  induction n with
  | zero =>
    intro wr tw cr tr bad p0 i hf hz
    exact absurd hf.1 (Nat.lt_irrefl 0)
  | succ n ih =>
    intro wr tw cr tr bad p0 i hf hz H locs hP hD hS ls hl
    refine lv_iload_n hx hb dX2_find_27 rfl (lv_at hl 2 rfl) ?_
    refine lv_aload_n hx hb dX2_find_28 rfl (lv_at hl 0 rfl) ?_
    refine va_get (D := (dC, dI)) (ci := 2) (v := .ref oc) (C := RX2) (T := TX2) (N := 8) hx hb hts inGX2 hown hK hP 0 rfl rfl 5 (by decide) (hts _ wd103) (fun _ h9 => h9) rfl dX2_find_29 ?_
    refine va_getN (D := (dC, dI)) (ci := 0) (v := .int cr.2) (C := RX0) (T := TX0) (N := 3) hx hb hts inGX0 hown hK hP 4 rfl rfl 2 (by decide) (hZ.use zw1 rfl) (fun _ h9 => h9) rfl dX2_find_32 ?_
    refine lv_icmp_ge (tgt := 57) hx hb dX2_find_35 (by decide) (fun c_35 => ?_) (fun c_35 => ?_)
    · refine lv_iconst (v := (-1)) hx hb dX2_find_57 (by decide) ?_
      have hP9 := hP.sub (ws' := [(ox, .inr (2, [.int st, .int lf, .int ao, .ref ow, .ref og, .ref oc, .ref od, .int bad])), (ow, .inr (0, [.int lf, .ref oaw, .int wr.2])), (oaw, .inl (cIw, 600, .inl wr.1)), (og, .inr (1, [.ref ow, .int st, .int sib, .int tw.1, .int tw.2.1, .int tw.2.2.1, .int tw.2.2.2])), (oc, .inr (0, [.int lf, .ref oac, .int cr.2])), (oac, .inl (cIc, 600, .inl cr.1)), (od, .inr (1, [.ref oc, .int st, .int sib, .int tr.1, .int tr.2.1, .int tr.2.2.1, .int tr.2.2.2]))]) [0, 1, 2, 3, 4, 5, 6] rfl
      have hD9 := hD.sub (ws' := [(ox, .inr (2, [.int st, .int lf, .int ao, .ref ow, .ref og, .ref oc, .ref od, .int bad])), (ow, .inr (0, [.int lf, .ref oaw, .int wr.2])), (oaw, .inl (cIw, 600, .inl wr.1)), (og, .inr (1, [.ref ow, .int st, .int sib, .int tw.1, .int tw.2.1, .int tw.2.2.1, .int tw.2.2.2])), (oc, .inr (0, [.int lf, .ref oac, .int cr.2])), (oac, .inl (cIc, 600, .inl cr.1)), (od, .inr (1, [.ref oc, .int st, .int sib, .int tr.1, .int tr.2.1, .int tr.2.2.1, .int tr.2.2.2]))]) [0, 1, 2, 3, 4, 5, 6] (by decide) rfl
      refine vx_ret ?_
      refine W.widen (k := 1) (n := 6) (by omega) (by omega) ?_
      exact W.iret (v := (-1)) hx hb hr (fun t ht hW => ⟨⟨(-1), (), rfl, ((plX2_find_l27_0 st lf ao sib n wr tw cr tr bad p0 i c_35).trans hz), by rw [ht]; exact hP9, hD9⟩, hS.F ht⟩) hS.2.2 dX2_find_58
    · refine lv_aload_n hx hb dX2_find_38 rfl (lv_at hl 0 rfl) ?_
      refine va_get (D := (dC, dI)) (ci := 2) (v := .ref oc) (C := RX2) (T := TX2) (N := 8) hx hb hts inGX2 hown hK hP 0 rfl rfl 5 (by decide) (hts _ wd103) (fun _ h9 => h9) rfl dX2_find_39 ?_
      refine lv_iload_n hx hb dX2_find_42 rfl (lv_at hl 2 rfl) ?_
      have hPc := hP.sub (ws' := [(oc, .inr (0, [.int lf, .ref oac, .int cr.2])), (oac, .inl (cIc, 600, .inl cr.1))]) [4, 5] rfl
      have hKc := hK.sub (tys' := [(cIc, .int)]) [1] rfl
      refine vp_callSi (va_Run.run (va_runV (As := [.int i]) (rest := []) ⟨hx, hb, hml, hown, hts⟩ (mX0_isMarkAt l dC dI cIc oc oac lf cr i) (cwV 1 hts (gV wd167 wd168 wd169 wd28 wd170) rfl rfl rfl (by decide +kernel) ⟨Nat.le_of_ble_eq_true rfl, Nat.le_of_ble_eq_true rfl⟩) ⟨fb_ro, va_recv hKc hPc (ci := 0) (q0 := 0) rfl rfl, pre_ro hPc hKc hZ⟩ rfl rfl hl.1 rfl (lv_room (Nat.le_of_ble_eq_true rfl)) dX2_find_43 ⟨Nat.le_of_ble_eq_true rfl, Nat.le_of_ble_eq_true rfl⟩)) (fun r_1 hw_2 => ?_)
      refine lv_if_eq (tgt := 51) hx hb dX2_find_46 (by decide) (fun c_46 => ?_) (fun c_46 => ?_)
      · obtain ⟨i_3, ei_3⟩ : ∃ y : Int32, y = i + 1 := ⟨_, rfl⟩
        refine lv_iinc (v := i_3) (lv' := [(2, .int i_3), (0, .ref ox), (1, .int p0)]) hx hb dX2_find_51 hl (k := 2) rfl (by rw [ei_3]; rfl) (by decide) rfl (fun ls hl => ?_)
        refine lv_goto (tgt := 27) hx hb dX2_find_54 (by decide) ?_
        exact ih wr tw cr tr bad p0 i_3 (fuel_step2 hf (nle_lt c_35) (by assumption)) ((plX2_find_l27_1 st lf ao sib n wr tw cr tr bad p0 i c_35 _ hw_2 c_46 _ ei_3).trans hz) _ _ (hP.sub (ws' := [(ox, .inr (2, [.int st, .int lf, .int ao, .ref ow, .ref og, .ref oc, .ref od, .int bad])), (ow, .inr (0, [.int lf, .ref oaw, .int wr.2])), (oaw, .inl (cIw, 600, .inl wr.1)), (og, .inr (1, [.ref ow, .int st, .int sib, .int tw.1, .int tw.2.1, .int tw.2.2.1, .int tw.2.2.2])), (oc, .inr (0, [.int lf, .ref oac, .int cr.2])), (oac, .inl (cIc, 600, .inl cr.1)), (od, .inr (1, [.ref oc, .int st, .int sib, .int tr.1, .int tr.2.1, .int tr.2.2.1, .int tr.2.2.2]))]) [0, 1, 2, 3, 4, 5, 6] rfl) (hD.sub (ws' := [(ox, .inr (2, [.int st, .int lf, .int ao, .ref ow, .ref og, .ref oc, .ref od, .int bad])), (ow, .inr (0, [.int lf, .ref oaw, .int wr.2])), (oaw, .inl (cIw, 600, .inl wr.1)), (og, .inr (1, [.ref ow, .int st, .int sib, .int tw.1, .int tw.2.1, .int tw.2.2.1, .int tw.2.2.2])), (oc, .inr (0, [.int lf, .ref oac, .int cr.2])), (oac, .inl (cIc, 600, .inl cr.1)), (od, .inr (1, [.ref oc, .int st, .int sib, .int tr.1, .int tr.2.1, .int tr.2.2.1, .int tr.2.2.2]))]) [0, 1, 2, 3, 4, 5, 6] (by decide) rfl) hS ls (lv_sub hl [1, 2, 0] rfl)
      · refine lv_iload_n hx hb dX2_find_49 rfl (lv_at hl 2 rfl) ?_
        have hP9 := hP.sub (ws' := [(ox, .inr (2, [.int st, .int lf, .int ao, .ref ow, .ref og, .ref oc, .ref od, .int bad])), (ow, .inr (0, [.int lf, .ref oaw, .int wr.2])), (oaw, .inl (cIw, 600, .inl wr.1)), (og, .inr (1, [.ref ow, .int st, .int sib, .int tw.1, .int tw.2.1, .int tw.2.2.1, .int tw.2.2.2])), (oc, .inr (0, [.int lf, .ref oac, .int cr.2])), (oac, .inl (cIc, 600, .inl cr.1)), (od, .inr (1, [.ref oc, .int st, .int sib, .int tr.1, .int tr.2.1, .int tr.2.2.1, .int tr.2.2.2]))]) [0, 1, 2, 3, 4, 5, 6] rfl
        have hD9 := hD.sub (ws' := [(ox, .inr (2, [.int st, .int lf, .int ao, .ref ow, .ref og, .ref oc, .ref od, .int bad])), (ow, .inr (0, [.int lf, .ref oaw, .int wr.2])), (oaw, .inl (cIw, 600, .inl wr.1)), (og, .inr (1, [.ref ow, .int st, .int sib, .int tw.1, .int tw.2.1, .int tw.2.2.1, .int tw.2.2.2])), (oc, .inr (0, [.int lf, .ref oac, .int cr.2])), (oac, .inl (cIc, 600, .inl cr.1)), (od, .inr (1, [.ref oc, .int st, .int sib, .int tr.1, .int tr.2.1, .int tr.2.2.1, .int tr.2.2.2]))]) [0, 1, 2, 3, 4, 5, 6] (by decide) rfl
        refine vx_ret ?_
        refine W.widen (k := 1) (n := 6) (by omega) (by omega) ?_
        exact W.iret (v := i) hx hb hr (fun t ht hW => ⟨⟨i, (), rfl, ((plX2_find_l27_2 st lf ao sib n wr tw cr tr bad p0 i c_35 _ hw_2 c_46).trans hz), by rw [ht]; exact hP9, hD9⟩, hS.F ht⟩) hS.2.2 dX2_find_50
set_option maxHeartbeats 4000000 in
set_option maxRecDepth 100000 in
theorem mX2_find (l : Launch) (hlt : l.stackTraces = false) (dC : Nat → ClassId) (dI : Nat → Nat → Nat) (cIw cIc : ClassId) (ox ow oaw og oc oac od : Nat) (sz : Nat) (st : Int32) (lf : Int32) (ao : Int32) (sib : Int32) (wr : Rw) (tw : Tk) (cr : Rw) (tr : Tk) (bad : Int32) (p0 : Int32) : vx_Met l yX2_find (Cond.code yX2_find cX2_find 3 (some .int) :: G) ({ frames := 6, cells := 1, slots := 6, locals := 82 } : Room) (va_Pc [.ref ox, .int p0] (fun U => U.heap.size = sz ∧ va_P (dC, dI) vwCl [(ox, .inr (2, [.int st, .int lf, .int ao, .ref ow, .ref og, .ref oc, .ref od, .int bad])), (ow, .inr (0, [.int lf, .ref oaw, .int wr.2])), (oaw, .inl (cIw, 600, .inl wr.1)), (og, .inr (1, [.ref ow, .int st, .int sib, .int tw.1, .int tw.2.1, .int tw.2.2.1, .int tw.2.2.2])), (oc, .inr (0, [.int lf, .ref oac, .int cr.2])), (oac, .inl (cIc, 600, .inl cr.1)), (od, .inr (1, [.ref oc, .int st, .int sib, .int tr.1, .int tr.2.1, .int tr.2.2.1, .int tr.2.2.2]))] U.heap ∧ va_K (dC, dI) vwCl [(cIw, .int), (cIc, .int)] U ∧ va_D (fun _ => True) [(ox, .inr (2, [.int st, .int lf, .int ao, .ref ow, .ref og, .ref oc, .ref od, .int bad])), (ow, .inr (0, [.int lf, .ref oaw, .int wr.2])), (oaw, .inl (cIw, 600, .inl wr.1)), (og, .inr (1, [.ref ow, .int st, .int sib, .int tw.1, .int tw.2.1, .int tw.2.2.1, .int tw.2.2.2])), (oc, .inr (0, [.int lf, .ref oac, .int cr.2])), (oac, .inl (cIc, 600, .inl cr.1)), (od, .inr (1, [.ref oc, .int st, .int sib, .int tr.1, .int tr.2.1, .int tr.2.2.1, .int tr.2.2.2]))] ∧ zOk U ∧ zSt (va_A [(ox, .inr (2, [.int st, .int lf, .int ao, .ref ow, .ref og, .ref oc, .ref od, .int bad])), (ow, .inr (0, [.int lf, .ref oaw, .int wr.2])), (oaw, .inl (cIw, 600, .inl wr.1)), (og, .inr (1, [.ref ow, .int st, .int sib, .int tw.1, .int tw.2.1, .int tw.2.2.1, .int tw.2.2.2])), (oc, .inr (0, [.int lf, .ref oac, .int cr.2])), (oac, .inl (cIc, 600, .inl cr.1)), (od, .inr (1, [.ref oc, .int st, .int sib, .int tr.1, .int tr.2.1, .int tr.2.2.1, .int tr.2.2.2]))] sz) U U.heap)) (va_Qi (fun (r : Int32) (u : Unit) => Sum.inr r = (FX2_find st lf ao sib wr tw cr tr bad p0)) (fun (u : Unit) (t : State) => va_P (dC, dI) vwCl [(ox, .inr (2, [.int st, .int lf, .int ao, .ref ow, .ref og, .ref oc, .ref od, .int bad])), (ow, .inr (0, [.int lf, .ref oaw, .int wr.2])), (oaw, .inl (cIw, 600, .inl wr.1)), (og, .inr (1, [.ref ow, .int st, .int sib, .int tw.1, .int tw.2.1, .int tw.2.2.1, .int tw.2.2.2])), (oc, .inr (0, [.int lf, .ref oac, .int cr.2])), (oac, .inl (cIc, 600, .inl cr.1)), (od, .inr (1, [.ref oc, .int st, .int sib, .int tr.1, .int tr.2.1, .int tr.2.2.1, .int tr.2.2.2]))] t.heap ∧ va_D (va_A [(ox, .inr (2, [.int st, .int lf, .int ao, .ref ow, .ref og, .ref oc, .ref od, .int bad])), (ow, .inr (0, [.int lf, .ref oaw, .int wr.2])), (oaw, .inl (cIw, 600, .inl wr.1)), (og, .inr (1, [.ref ow, .int st, .int sib, .int tw.1, .int tw.2.1, .int tw.2.2.1, .int tw.2.2.2])), (oc, .inr (0, [.int lf, .ref oac, .int cr.2])), (oac, .inl (cIc, 600, .inl cr.1)), (od, .inr (1, [.ref oc, .int st, .int sib, .int tr.1, .int tr.2.1, .int tr.2.2.1, .int tr.2.2.2]))] sz) [(ox, .inr (2, [.int st, .int lf, .int ao, .ref ow, .ref og, .ref oc, .ref od, .int bad])), (ow, .inr (0, [.int lf, .ref oaw, .int wr.2])), (oaw, .inl (cIw, 600, .inl wr.1)), (og, .inr (1, [.ref ow, .int st, .int sib, .int tw.1, .int tw.2.1, .int tw.2.2.1, .int tw.2.2.2])), (oc, .inr (0, [.int lf, .ref oac, .int cr.2])), (oac, .inl (cIc, 600, .inl cr.1)), (od, .inr (1, [.ref oc, .int st, .int sib, .int tr.1, .int tr.2.1, .int tr.2.2.1, .int tr.2.2.2]))]) (va_A [(ox, .inr (2, [.int st, .int lf, .int ao, .ref ow, .ref og, .ref oc, .ref od, .int bad])), (ow, .inr (0, [.int lf, .ref oaw, .int wr.2])), (oaw, .inl (cIw, 600, .inl wr.1)), (og, .inr (1, [.ref ow, .int st, .int sib, .int tw.1, .int tw.2.1, .int tw.2.2.1, .int tw.2.2.2])), (oc, .inr (0, [.int lf, .ref oac, .int cr.2])), (oac, .inl (cIc, 600, .inl cr.1)), (od, .inr (1, [.ref oc, .int st, .int sib, .int tr.1, .int tr.2.1, .int tr.2.2.1, .int tr.2.2.2]))] sz)) (vx_X (fun (_ : Unit) => True) (fun E _ t => Sum.inl E = (FX2_find st lf ao sib wr tw cr tr bad p0) ∧ va_P (dC, dI) vwCl [(ox, .inr (2, [.int st, .int lf, .int ao, .ref ow, .ref og, .ref oc, .ref od, .int bad])), (ow, .inr (0, [.int lf, .ref oaw, .int wr.2])), (oaw, .inl (cIw, 600, .inl wr.1)), (og, .inr (1, [.ref ow, .int st, .int sib, .int tw.1, .int tw.2.1, .int tw.2.2.1, .int tw.2.2.2])), (oc, .inr (0, [.int lf, .ref oac, .int cr.2])), (oac, .inl (cIc, 600, .inl cr.1)), (od, .inr (1, [.ref oc, .int st, .int sib, .int tr.1, .int tr.2.1, .int tr.2.2.1, .int tr.2.2.2]))] t.heap ∧ va_D (va_A [(ox, .inr (2, [.int st, .int lf, .int ao, .ref ow, .ref og, .ref oc, .ref od, .int bad])), (ow, .inr (0, [.int lf, .ref oaw, .int wr.2])), (oaw, .inl (cIw, 600, .inl wr.1)), (og, .inr (1, [.ref ow, .int st, .int sib, .int tw.1, .int tw.2.1, .int tw.2.2.1, .int tw.2.2.2])), (oc, .inr (0, [.int lf, .ref oac, .int cr.2])), (oac, .inl (cIc, 600, .inl cr.1)), (od, .inr (1, [.ref oc, .int st, .int sib, .int tr.1, .int tr.2.1, .int tr.2.2.1, .int tr.2.2.2]))] sz) [(ox, .inr (2, [.int st, .int lf, .int ao, .ref ow, .ref og, .ref oc, .ref od, .int bad])), (ow, .inr (0, [.int lf, .ref oaw, .int wr.2])), (oaw, .inl (cIw, 600, .inl wr.1)), (og, .inr (1, [.ref ow, .int st, .int sib, .int tw.1, .int tw.2.1, .int tw.2.2.1, .int tw.2.2.2])), (oc, .inr (0, [.int lf, .ref oac, .int cr.2])), (oac, .inl (cIc, 600, .inl cr.1)), (od, .inr (1, [.ref oc, .int st, .int sib, .int tr.1, .int tr.2.1, .int tr.2.2.1, .int tr.2.2.2]))]) (va_A [(ox, .inr (2, [.int st, .int lf, .int ao, .ref ow, .ref og, .ref oc, .ref od, .int bad])), (ow, .inr (0, [.int lf, .ref oaw, .int wr.2])), (oaw, .inl (cIw, 600, .inl wr.1)), (og, .inr (1, [.ref ow, .int st, .int sib, .int tw.1, .int tw.2.1, .int tw.2.2.1, .int tw.2.2.2])), (oc, .inr (0, [.int lf, .ref oac, .int cr.2])), (oac, .inl (cIc, 600, .inl cr.1)), (od, .inr (1, [.ref oc, .int st, .int sib, .int tr.1, .int tr.2.1, .int tr.2.2.1, .int tr.2.2.2]))] sz)) 1 6 (va_A [(ox, .inr (2, [.int st, .int lf, .int ao, .ref ow, .ref og, .ref oc, .ref od, .int bad])), (ow, .inr (0, [.int lf, .ref oaw, .int wr.2])), (oaw, .inl (cIw, 600, .inl wr.1)), (og, .inr (1, [.ref ow, .int st, .int sib, .int tw.1, .int tw.2.1, .int tw.2.2.1, .int tw.2.2.2])), (oc, .inr (0, [.int lf, .ref oac, .int cr.2])), (oac, .inl (cIc, 600, .inl cr.1)), (od, .inr (1, [.ref oc, .int st, .int sib, .int tr.1, .int tr.2.1, .int tr.2.2.1, .int tr.2.2.2]))] sz) := by
  refine vx_ofW (cc := cX2_find) (maxL := 3) (ret := (some .int)) (by decide) rfl ?_
  intro p e s m args below meth c s₁ B hml hE hv
  obtain ⟨rfl, hsz, hP, hK, hD0, hZ, hQ⟩ := hv
  have hx := B.exec
  have hb := B.bytes
  have hr := B.returns
  have hts : ∀ w ∈ G, w.before [.ref ox, .int p0].toArray s = true := fun w h => atoms_spec (ws := (Cond.code yX2_find cX2_find 3 (some .int) :: G)) B.pre w (List.mem_cons_of_mem _ h)
  have hown : s.vm.findClass RX2 = some m.cls := findClass_of_methodNamed B.named
  have hlocks := B.notSynchronized
  subst hsz
  have hD := hD0.self (sz := s.heap.size)
  generalize hAe : va_A [(ox, .inr (2, [.int st, .int lf, .int ao, .ref ow, .ref og, .ref oc, .ref od, .int bad])), (ow, .inr (0, [.int lf, .ref oaw, .int wr.2])), (oaw, .inl (cIw, 600, .inl wr.1)), (og, .inr (1, [.ref ow, .int st, .int sib, .int tw.1, .int tw.2.1, .int tw.2.2.1, .int tw.2.2.2])), (oc, .inr (0, [.int lf, .ref oac, .int cr.2])), (oac, .inl (cIc, 600, .inl cr.1)), (od, .inr (1, [.ref oc, .int st, .int sib, .int tr.1, .int tr.2.1, .int tr.2.2.1, .int tr.2.2.2]))] s.heap.size = A at hD hQ ⊢
  have hA : ∀ q : Nat, s.heap.size ≤ q → A q := fun q h => by rw [← hAe]; exact Or.inr h
  have hS : va_S A s.heap s.heap [] := va_S.rf
  have hP : va_P (dC, dI) vwCl [(ox, .inr (2, [.int st, .int lf, .int ao, .ref ow, .ref og, .ref oc, .ref od, .int bad])), (ow, .inr (0, [.int lf, .ref oaw, .int wr.2])), (oaw, .inl (cIw, 600, .inl wr.1)), (og, .inr (1, [.ref ow, .int st, .int sib, .int tw.1, .int tw.2.1, .int tw.2.2.1, .int tw.2.2.2])), (oc, .inr (0, [.int lf, .ref oac, .int cr.2])), (oac, .inl (cIc, 600, .inl cr.1)), (od, .inr (1, [.ref oc, .int st, .int sib, .int tr.1, .int tr.2.1, .int tr.2.2.1, .int tr.2.2.2]))] s.heap := hP
  have hl := lv_entry ([.ref ox, .int p0]) (n := 3) (Nat.le_of_ble_eq_true rfl)
  rw [lg_entry_eq]
  generalize (lg_sl ([.ref ox, .int p0]) ++ List.replicate (3 - (lg_sl ([.ref ox, .int p0])).length) Slot.unset).toArray = ls at hl ⊢
  have hl : lv_has ls 3 [(0, .ref ox), (1, .int p0)] := hl
  refine lv_iload_n hx hb dX2_find_0 rfl (lv_at hl 1 rfl) ?_
  refine lv_if_lt (tgt := 15) hx hb dX2_find_1 (by decide) (fun c_1 => ?_) (fun c_1 => ?_)
  · obtain ⟨sa, hstr⟩ := hZ.2 (164, "no such byte came") (by decide)
    exact vx_throwS (own := RX2) (cls := "java/lang/IndexOutOfBoundsException") (names := ["java/lang/RuntimeException", "java/lang/Exception"]) hx hb hlt hown (by decide +kernel) (by decide +kernel) (hts _ wd346) (hts _ wd37) hstr (fun w h => (xat_103 w h).elim (hts w) (fun q => hZ.use q.1 q.2)) xgood_103 hQ.1 hQ.2 hS (hl.1.trans hml.symm) dX2_find_15 dX2_find_18 dX2_find_19 dX2_find_21 dX2_find_24 (fun x h => (hE x h).elim) (Nat.le_of_ble_eq_true rfl) (Nat.le_of_ble_eq_true rfl) (Nat.le_of_ble_eq_true rfl) (Nat.le_of_ble_eq_true rfl) hlocks (fun t hvm hz hk => ⟨(), trivial, ⟨(plX2_find_0 st lf ao sib wr tw cr tr bad p0 c_1), (x_at hS hP hz hk).1, hD⟩, (x_at hS hP hz hk).2⟩) hS.2.2 (by omega) (by omega)
  · refine lv_iload_n hx hb dX2_find_4 rfl (lv_at hl 1 rfl) ?_
    refine lv_aload_n hx hb dX2_find_5 rfl (lv_at hl 0 rfl) ?_
    refine va_get (D := (dC, dI)) (ci := 2) (v := .ref oc) (C := RX2) (T := TX2) (N := 8) hx hb hts inGX2 hown hK hP 0 rfl rfl 5 (by decide) (hts _ wd103) (fun _ h9 => h9) rfl dX2_find_6 ?_
    refine va_getN (D := (dC, dI)) (ci := 0) (v := .int cr.2) (C := RX0) (T := TX0) (N := 3) hx hb hts inGX0 hown hK hP 4 rfl rfl 2 (by decide) (hZ.use zw1 rfl) (fun _ h9 => h9) rfl dX2_find_9 ?_
    refine lv_icmp_le (tgt := 25) hx hb dX2_find_12 (by decide) (fun c_12 => ?_) (fun c_12 => ?_)
    · refine lv_iload_n hx hb dX2_find_25 rfl (lv_at hl 1 rfl) ?_
      refine lv_istore_n (lv' := [(2, .int p0), (0, .ref ox), (1, .int p0)]) hx hb dX2_find_26 rfl hl (by decide) rfl (fun ls hl => ?_)
      exact kX2_find_27 hx hb hr hml hown hts hlocks hA hZ hK (fz p0 cr.2) wr tw cr tr bad p0 p0 (fz_ok _ _) (plX2_find_1 st lf ao sib wr tw cr tr bad p0 c_1 c_12) _ _ (hP.sub (ws' := [(ox, .inr (2, [.int st, .int lf, .int ao, .ref ow, .ref og, .ref oc, .ref od, .int bad])), (ow, .inr (0, [.int lf, .ref oaw, .int wr.2])), (oaw, .inl (cIw, 600, .inl wr.1)), (og, .inr (1, [.ref ow, .int st, .int sib, .int tw.1, .int tw.2.1, .int tw.2.2.1, .int tw.2.2.2])), (oc, .inr (0, [.int lf, .ref oac, .int cr.2])), (oac, .inl (cIc, 600, .inl cr.1)), (od, .inr (1, [.ref oc, .int st, .int sib, .int tr.1, .int tr.2.1, .int tr.2.2.1, .int tr.2.2.2]))]) [0, 1, 2, 3, 4, 5, 6] rfl) (hD.sub (ws' := [(ox, .inr (2, [.int st, .int lf, .int ao, .ref ow, .ref og, .ref oc, .ref od, .int bad])), (ow, .inr (0, [.int lf, .ref oaw, .int wr.2])), (oaw, .inl (cIw, 600, .inl wr.1)), (og, .inr (1, [.ref ow, .int st, .int sib, .int tw.1, .int tw.2.1, .int tw.2.2.1, .int tw.2.2.2])), (oc, .inr (0, [.int lf, .ref oac, .int cr.2])), (oac, .inl (cIc, 600, .inl cr.1)), (od, .inr (1, [.ref oc, .int st, .int sib, .int tr.1, .int tr.2.1, .int tr.2.2.1, .int tr.2.2.2]))]) [0, 1, 2, 3, 4, 5, 6] (by decide) rfl) hS ls (lv_sub hl [1, 2, 0] rfl)
    · obtain ⟨sa, hstr⟩ := hZ.2 (164, "no such byte came") (by decide)
      exact vx_throwS (own := RX2) (cls := "java/lang/IndexOutOfBoundsException") (names := ["java/lang/RuntimeException", "java/lang/Exception"]) hx hb hlt hown (by decide +kernel) (by decide +kernel) (hts _ wd346) (hts _ wd37) hstr (fun w h => (xat_103 w h).elim (hts w) (fun q => hZ.use q.1 q.2)) xgood_103 hQ.1 hQ.2 hS (hl.1.trans hml.symm) dX2_find_15 dX2_find_18 dX2_find_19 dX2_find_21 dX2_find_24 (fun x h => (hE x h).elim) (Nat.le_of_ble_eq_true rfl) (Nat.le_of_ble_eq_true rfl) (Nat.le_of_ble_eq_true rfl) (Nat.le_of_ble_eq_true rfl) hlocks (fun t hvm hz hk => ⟨(), trivial, ⟨(plX2_find_2 st lf ao sib wr tw cr tr bad p0 c_1 c_12), (x_at hS hP hz hk).1, hD⟩, (x_at hS hP hz hk).2⟩) hS.2.2 (by omega) (by omega)
def FX2_sum (st : Int32) (lf : Int32) (ao : Int32) (sib : Int32) (wr : Rw) (tw : Tk) (cr : Rw) (tr : Tk) (bad : Int32) (p0 : Int32) (p1 : Int32) (p2 : Int32) (p3 : Int32) : String ⊕ Int32 :=
  if p1 = 16 then
    if p0 = 0 then
      if p2 < 0 then
        Sum.inl "java/lang/IndexOutOfBoundsException"
      else
        if p3 < p2 then
          Sum.inl "java/lang/IndexOutOfBoundsException"
        else
          if p3 ≤ wr.2 then
            if p1 = 16 then
              let r_3 := FX0_sumOf16 lf wr p2 p3
              Sum.inr r_3
            else
              let r_1 := FX0_sumOf32 lf wr p2 p3
              Sum.inr r_1
          else
            Sum.inl "java/lang/IndexOutOfBoundsException"
    else
      if p2 < 0 then
        Sum.inl "java/lang/IndexOutOfBoundsException"
      else
        if p3 < p2 then
          Sum.inl "java/lang/IndexOutOfBoundsException"
        else
          if p3 ≤ cr.2 then
            if p1 = 16 then
              let r_7 := FX0_sumOf16 lf cr p2 p3
              Sum.inr r_7
            else
              let r_5 := FX0_sumOf32 lf cr p2 p3
              Sum.inr r_5
          else
            Sum.inl "java/lang/IndexOutOfBoundsException"
  else
    if p1 = 32 then
      if p0 = 0 then
        if p2 < 0 then
          Sum.inl "java/lang/IndexOutOfBoundsException"
        else
          if p3 < p2 then
            Sum.inl "java/lang/IndexOutOfBoundsException"
          else
            if p3 ≤ wr.2 then
              if p1 = 16 then
                let r_11 := FX0_sumOf16 lf wr p2 p3
                Sum.inr r_11
              else
                let r_9 := FX0_sumOf32 lf wr p2 p3
                Sum.inr r_9
            else
              Sum.inl "java/lang/IndexOutOfBoundsException"
      else
        if p2 < 0 then
          Sum.inl "java/lang/IndexOutOfBoundsException"
        else
          if p3 < p2 then
            Sum.inl "java/lang/IndexOutOfBoundsException"
          else
            if p3 ≤ cr.2 then
              if p1 = 16 then
                let r_15 := FX0_sumOf16 lf cr p2 p3
                Sum.inr r_15
              else
                let r_13 := FX0_sumOf32 lf cr p2 p3
                Sum.inr r_13
            else
              Sum.inl "java/lang/IndexOutOfBoundsException"
    else
      Sum.inl "java/lang/IllegalArgumentException"
set_option maxRecDepth 100000 in
theorem plX2_sum_0 (st : Int32) (lf : Int32) (ao : Int32) (sib : Int32) (wr : Rw) (tw : Tk) (cr : Rw) (tr : Tk) (bad : Int32) (p0 : Int32) (p1 : Int32) (p2 : Int32) (p3 : Int32) (c_3 : p1 = 16) (c_23 : p0 = 0) (c_40 : p2 < 0) : Sum.inl "java/lang/IndexOutOfBoundsException" = FX2_sum st lf ao sib wr tw cr tr bad p0 p1 p2 p3 := by
  exact (((if_pos c_3).trans (if_pos c_23)).trans (if_pos c_40)).symm
set_option maxRecDepth 100000 in
theorem plX2_sum_1 (st : Int32) (lf : Int32) (ao : Int32) (sib : Int32) (wr : Rw) (tw : Tk) (cr : Rw) (tr : Tk) (bad : Int32) (p0 : Int32) (p1 : Int32) (p2 : Int32) (p3 : Int32) (c_3 : p1 = 16) (c_23 : p0 = 0) (c_40 : ¬ (p2 < 0)) (c_46 : p3 < p2) : Sum.inl "java/lang/IndexOutOfBoundsException" = FX2_sum st lf ao sib wr tw cr tr bad p0 p1 p2 p3 := by
  exact ((((if_pos c_3).trans (if_pos c_23)).trans (if_neg c_40)).trans (if_pos c_46)).symm
set_option maxRecDepth 100000 in
theorem plX2_sum_2 (st : Int32) (lf : Int32) (ao : Int32) (sib : Int32) (wr : Rw) (tw : Tk) (cr : Rw) (tr : Tk) (bad : Int32) (p0 : Int32) (p1 : Int32) (p2 : Int32) (p3 : Int32) (c_3 : p1 = 16) (c_23 : p0 = 0) (c_40 : ¬ (p2 < 0)) (c_46 : ¬ (p3 < p2)) (c_56 : p3 ≤ wr.2) (c_72 : ¬ (p1 = 16)) (r_1 : Int32) (hw_2 : r_1 = FX0_sumOf32 lf wr p2 p3) : Sum.inr r_1 = FX2_sum st lf ao sib wr tw cr tr bad p0 p1 p2 p3 := by
  subst hw_2
  exact ((((((if_pos c_3).trans (if_pos c_23)).trans (if_neg c_40)).trans (if_neg c_46)).trans (if_pos c_56)).trans (if_neg c_72)).symm
set_option maxRecDepth 100000 in
theorem plX2_sum_3 (st : Int32) (lf : Int32) (ao : Int32) (sib : Int32) (wr : Rw) (tw : Tk) (cr : Rw) (tr : Tk) (bad : Int32) (p0 : Int32) (p1 : Int32) (p2 : Int32) (p3 : Int32) (c_3 : p1 = 16) (c_23 : p0 = 0) (c_40 : ¬ (p2 < 0)) (c_46 : ¬ (p3 < p2)) (c_56 : p3 ≤ wr.2) (c_72 : p1 = 16) (r_3 : Int32) (hw_4 : r_3 = FX0_sumOf16 lf wr p2 p3) : Sum.inr r_3 = FX2_sum st lf ao sib wr tw cr tr bad p0 p1 p2 p3 := by
  subst hw_4
  exact ((((((if_pos c_3).trans (if_pos c_23)).trans (if_neg c_40)).trans (if_neg c_46)).trans (if_pos c_56)).trans (if_pos c_72)).symm
set_option maxRecDepth 100000 in
theorem plX2_sum_4 (st : Int32) (lf : Int32) (ao : Int32) (sib : Int32) (wr : Rw) (tw : Tk) (cr : Rw) (tr : Tk) (bad : Int32) (p0 : Int32) (p1 : Int32) (p2 : Int32) (p3 : Int32) (c_3 : p1 = 16) (c_23 : p0 = 0) (c_40 : ¬ (p2 < 0)) (c_46 : ¬ (p3 < p2)) (c_56 : ¬ (p3 ≤ wr.2)) : Sum.inl "java/lang/IndexOutOfBoundsException" = FX2_sum st lf ao sib wr tw cr tr bad p0 p1 p2 p3 := by
  exact (((((if_pos c_3).trans (if_pos c_23)).trans (if_neg c_40)).trans (if_neg c_46)).trans (if_neg c_56)).symm
set_option maxRecDepth 100000 in
theorem plX2_sum_5 (st : Int32) (lf : Int32) (ao : Int32) (sib : Int32) (wr : Rw) (tw : Tk) (cr : Rw) (tr : Tk) (bad : Int32) (p0 : Int32) (p1 : Int32) (p2 : Int32) (p3 : Int32) (c_3 : p1 = 16) (c_23 : ¬ (p0 = 0)) (c_40 : p2 < 0) : Sum.inl "java/lang/IndexOutOfBoundsException" = FX2_sum st lf ao sib wr tw cr tr bad p0 p1 p2 p3 := by
  exact (((if_pos c_3).trans (if_neg c_23)).trans (if_pos c_40)).symm
set_option maxRecDepth 100000 in
theorem plX2_sum_6 (st : Int32) (lf : Int32) (ao : Int32) (sib : Int32) (wr : Rw) (tw : Tk) (cr : Rw) (tr : Tk) (bad : Int32) (p0 : Int32) (p1 : Int32) (p2 : Int32) (p3 : Int32) (c_3 : p1 = 16) (c_23 : ¬ (p0 = 0)) (c_40 : ¬ (p2 < 0)) (c_46 : p3 < p2) : Sum.inl "java/lang/IndexOutOfBoundsException" = FX2_sum st lf ao sib wr tw cr tr bad p0 p1 p2 p3 := by
  exact ((((if_pos c_3).trans (if_neg c_23)).trans (if_neg c_40)).trans (if_pos c_46)).symm
set_option maxRecDepth 100000 in
theorem plX2_sum_7 (st : Int32) (lf : Int32) (ao : Int32) (sib : Int32) (wr : Rw) (tw : Tk) (cr : Rw) (tr : Tk) (bad : Int32) (p0 : Int32) (p1 : Int32) (p2 : Int32) (p3 : Int32) (c_3 : p1 = 16) (c_23 : ¬ (p0 = 0)) (c_40 : ¬ (p2 < 0)) (c_46 : ¬ (p3 < p2)) (c_56 : p3 ≤ cr.2) (c_72 : ¬ (p1 = 16)) (r_5 : Int32) (hw_6 : r_5 = FX0_sumOf32 lf cr p2 p3) : Sum.inr r_5 = FX2_sum st lf ao sib wr tw cr tr bad p0 p1 p2 p3 := by
  subst hw_6
  exact ((((((if_pos c_3).trans (if_neg c_23)).trans (if_neg c_40)).trans (if_neg c_46)).trans (if_pos c_56)).trans (if_neg c_72)).symm
set_option maxRecDepth 100000 in
theorem plX2_sum_8 (st : Int32) (lf : Int32) (ao : Int32) (sib : Int32) (wr : Rw) (tw : Tk) (cr : Rw) (tr : Tk) (bad : Int32) (p0 : Int32) (p1 : Int32) (p2 : Int32) (p3 : Int32) (c_3 : p1 = 16) (c_23 : ¬ (p0 = 0)) (c_40 : ¬ (p2 < 0)) (c_46 : ¬ (p3 < p2)) (c_56 : p3 ≤ cr.2) (c_72 : p1 = 16) (r_7 : Int32) (hw_8 : r_7 = FX0_sumOf16 lf cr p2 p3) : Sum.inr r_7 = FX2_sum st lf ao sib wr tw cr tr bad p0 p1 p2 p3 := by
  subst hw_8
  exact ((((((if_pos c_3).trans (if_neg c_23)).trans (if_neg c_40)).trans (if_neg c_46)).trans (if_pos c_56)).trans (if_pos c_72)).symm
set_option maxRecDepth 100000 in
theorem plX2_sum_9 (st : Int32) (lf : Int32) (ao : Int32) (sib : Int32) (wr : Rw) (tw : Tk) (cr : Rw) (tr : Tk) (bad : Int32) (p0 : Int32) (p1 : Int32) (p2 : Int32) (p3 : Int32) (c_3 : p1 = 16) (c_23 : ¬ (p0 = 0)) (c_40 : ¬ (p2 < 0)) (c_46 : ¬ (p3 < p2)) (c_56 : ¬ (p3 ≤ cr.2)) : Sum.inl "java/lang/IndexOutOfBoundsException" = FX2_sum st lf ao sib wr tw cr tr bad p0 p1 p2 p3 := by
  exact (((((if_pos c_3).trans (if_neg c_23)).trans (if_neg c_40)).trans (if_neg c_46)).trans (if_neg c_56)).symm
set_option maxRecDepth 100000 in
theorem plX2_sum_10 (st : Int32) (lf : Int32) (ao : Int32) (sib : Int32) (wr : Rw) (tw : Tk) (cr : Rw) (tr : Tk) (bad : Int32) (p0 : Int32) (p1 : Int32) (p2 : Int32) (p3 : Int32) (c_3 : ¬ (p1 = 16)) (c_9 : p1 = 32) (c_23 : p0 = 0) (c_40 : p2 < 0) : Sum.inl "java/lang/IndexOutOfBoundsException" = FX2_sum st lf ao sib wr tw cr tr bad p0 p1 p2 p3 := by
  exact ((((if_neg c_3).trans (if_pos c_9)).trans (if_pos c_23)).trans (if_pos c_40)).symm
set_option maxRecDepth 100000 in
theorem plX2_sum_11 (st : Int32) (lf : Int32) (ao : Int32) (sib : Int32) (wr : Rw) (tw : Tk) (cr : Rw) (tr : Tk) (bad : Int32) (p0 : Int32) (p1 : Int32) (p2 : Int32) (p3 : Int32) (c_3 : ¬ (p1 = 16)) (c_9 : p1 = 32) (c_23 : p0 = 0) (c_40 : ¬ (p2 < 0)) (c_46 : p3 < p2) : Sum.inl "java/lang/IndexOutOfBoundsException" = FX2_sum st lf ao sib wr tw cr tr bad p0 p1 p2 p3 := by
  exact (((((if_neg c_3).trans (if_pos c_9)).trans (if_pos c_23)).trans (if_neg c_40)).trans (if_pos c_46)).symm
set_option maxRecDepth 100000 in
theorem plX2_sum_12 (st : Int32) (lf : Int32) (ao : Int32) (sib : Int32) (wr : Rw) (tw : Tk) (cr : Rw) (tr : Tk) (bad : Int32) (p0 : Int32) (p1 : Int32) (p2 : Int32) (p3 : Int32) (c_3 : ¬ (p1 = 16)) (c_9 : p1 = 32) (c_23 : p0 = 0) (c_40 : ¬ (p2 < 0)) (c_46 : ¬ (p3 < p2)) (c_56 : p3 ≤ wr.2) (c_72 : ¬ (p1 = 16)) (r_9 : Int32) (hw_10 : r_9 = FX0_sumOf32 lf wr p2 p3) : Sum.inr r_9 = FX2_sum st lf ao sib wr tw cr tr bad p0 p1 p2 p3 := by
  subst hw_10
  exact (((((((if_neg c_3).trans (if_pos c_9)).trans (if_pos c_23)).trans (if_neg c_40)).trans (if_neg c_46)).trans (if_pos c_56)).trans (if_neg c_72)).symm
set_option maxRecDepth 100000 in
theorem plX2_sum_13 (st : Int32) (lf : Int32) (ao : Int32) (sib : Int32) (wr : Rw) (tw : Tk) (cr : Rw) (tr : Tk) (bad : Int32) (p0 : Int32) (p1 : Int32) (p2 : Int32) (p3 : Int32) (c_3 : ¬ (p1 = 16)) (c_9 : p1 = 32) (c_23 : p0 = 0) (c_40 : ¬ (p2 < 0)) (c_46 : ¬ (p3 < p2)) (c_56 : p3 ≤ wr.2) (c_72 : p1 = 16) (r_11 : Int32) (hw_12 : r_11 = FX0_sumOf16 lf wr p2 p3) : Sum.inr r_11 = FX2_sum st lf ao sib wr tw cr tr bad p0 p1 p2 p3 := by
  subst hw_12
  exact (((((((if_neg c_3).trans (if_pos c_9)).trans (if_pos c_23)).trans (if_neg c_40)).trans (if_neg c_46)).trans (if_pos c_56)).trans (if_pos c_72)).symm
set_option maxRecDepth 100000 in
theorem plX2_sum_14 (st : Int32) (lf : Int32) (ao : Int32) (sib : Int32) (wr : Rw) (tw : Tk) (cr : Rw) (tr : Tk) (bad : Int32) (p0 : Int32) (p1 : Int32) (p2 : Int32) (p3 : Int32) (c_3 : ¬ (p1 = 16)) (c_9 : p1 = 32) (c_23 : p0 = 0) (c_40 : ¬ (p2 < 0)) (c_46 : ¬ (p3 < p2)) (c_56 : ¬ (p3 ≤ wr.2)) : Sum.inl "java/lang/IndexOutOfBoundsException" = FX2_sum st lf ao sib wr tw cr tr bad p0 p1 p2 p3 := by
  exact ((((((if_neg c_3).trans (if_pos c_9)).trans (if_pos c_23)).trans (if_neg c_40)).trans (if_neg c_46)).trans (if_neg c_56)).symm
set_option maxRecDepth 100000 in
theorem plX2_sum_15 (st : Int32) (lf : Int32) (ao : Int32) (sib : Int32) (wr : Rw) (tw : Tk) (cr : Rw) (tr : Tk) (bad : Int32) (p0 : Int32) (p1 : Int32) (p2 : Int32) (p3 : Int32) (c_3 : ¬ (p1 = 16)) (c_9 : p1 = 32) (c_23 : ¬ (p0 = 0)) (c_40 : p2 < 0) : Sum.inl "java/lang/IndexOutOfBoundsException" = FX2_sum st lf ao sib wr tw cr tr bad p0 p1 p2 p3 := by
  exact ((((if_neg c_3).trans (if_pos c_9)).trans (if_neg c_23)).trans (if_pos c_40)).symm
set_option maxRecDepth 100000 in
theorem plX2_sum_16 (st : Int32) (lf : Int32) (ao : Int32) (sib : Int32) (wr : Rw) (tw : Tk) (cr : Rw) (tr : Tk) (bad : Int32) (p0 : Int32) (p1 : Int32) (p2 : Int32) (p3 : Int32) (c_3 : ¬ (p1 = 16)) (c_9 : p1 = 32) (c_23 : ¬ (p0 = 0)) (c_40 : ¬ (p2 < 0)) (c_46 : p3 < p2) : Sum.inl "java/lang/IndexOutOfBoundsException" = FX2_sum st lf ao sib wr tw cr tr bad p0 p1 p2 p3 := by
  exact (((((if_neg c_3).trans (if_pos c_9)).trans (if_neg c_23)).trans (if_neg c_40)).trans (if_pos c_46)).symm
set_option maxRecDepth 100000 in
theorem plX2_sum_17 (st : Int32) (lf : Int32) (ao : Int32) (sib : Int32) (wr : Rw) (tw : Tk) (cr : Rw) (tr : Tk) (bad : Int32) (p0 : Int32) (p1 : Int32) (p2 : Int32) (p3 : Int32) (c_3 : ¬ (p1 = 16)) (c_9 : p1 = 32) (c_23 : ¬ (p0 = 0)) (c_40 : ¬ (p2 < 0)) (c_46 : ¬ (p3 < p2)) (c_56 : p3 ≤ cr.2) (c_72 : ¬ (p1 = 16)) (r_13 : Int32) (hw_14 : r_13 = FX0_sumOf32 lf cr p2 p3) : Sum.inr r_13 = FX2_sum st lf ao sib wr tw cr tr bad p0 p1 p2 p3 := by
  subst hw_14
  exact (((((((if_neg c_3).trans (if_pos c_9)).trans (if_neg c_23)).trans (if_neg c_40)).trans (if_neg c_46)).trans (if_pos c_56)).trans (if_neg c_72)).symm
set_option maxRecDepth 100000 in
theorem plX2_sum_18 (st : Int32) (lf : Int32) (ao : Int32) (sib : Int32) (wr : Rw) (tw : Tk) (cr : Rw) (tr : Tk) (bad : Int32) (p0 : Int32) (p1 : Int32) (p2 : Int32) (p3 : Int32) (c_3 : ¬ (p1 = 16)) (c_9 : p1 = 32) (c_23 : ¬ (p0 = 0)) (c_40 : ¬ (p2 < 0)) (c_46 : ¬ (p3 < p2)) (c_56 : p3 ≤ cr.2) (c_72 : p1 = 16) (r_15 : Int32) (hw_16 : r_15 = FX0_sumOf16 lf cr p2 p3) : Sum.inr r_15 = FX2_sum st lf ao sib wr tw cr tr bad p0 p1 p2 p3 := by
  subst hw_16
  exact (((((((if_neg c_3).trans (if_pos c_9)).trans (if_neg c_23)).trans (if_neg c_40)).trans (if_neg c_46)).trans (if_pos c_56)).trans (if_pos c_72)).symm
set_option maxRecDepth 100000 in
theorem plX2_sum_19 (st : Int32) (lf : Int32) (ao : Int32) (sib : Int32) (wr : Rw) (tw : Tk) (cr : Rw) (tr : Tk) (bad : Int32) (p0 : Int32) (p1 : Int32) (p2 : Int32) (p3 : Int32) (c_3 : ¬ (p1 = 16)) (c_9 : p1 = 32) (c_23 : ¬ (p0 = 0)) (c_40 : ¬ (p2 < 0)) (c_46 : ¬ (p3 < p2)) (c_56 : ¬ (p3 ≤ cr.2)) : Sum.inl "java/lang/IndexOutOfBoundsException" = FX2_sum st lf ao sib wr tw cr tr bad p0 p1 p2 p3 := by
  exact ((((((if_neg c_3).trans (if_pos c_9)).trans (if_neg c_23)).trans (if_neg c_40)).trans (if_neg c_46)).trans (if_neg c_56)).symm
set_option maxRecDepth 100000 in
theorem plX2_sum_20 (st : Int32) (lf : Int32) (ao : Int32) (sib : Int32) (wr : Rw) (tw : Tk) (cr : Rw) (tr : Tk) (bad : Int32) (p0 : Int32) (p1 : Int32) (p2 : Int32) (p3 : Int32) (c_3 : ¬ (p1 = 16)) (c_9 : ¬ (p1 = 32)) : Sum.inl "java/lang/IllegalArgumentException" = FX2_sum st lf ao sib wr tw cr tr bad p0 p1 p2 p3 := by
  exact ((if_neg c_3).trans (if_neg c_9)).symm
set_option maxHeartbeats 4000000 in
set_option maxRecDepth 100000 in
theorem mX2_sum (l : Launch) (hlt : l.stackTraces = false) (dC : Nat → ClassId) (dI : Nat → Nat → Nat) (cIw cIc : ClassId) (ox ow oaw og oc oac od : Nat) (sz : Nat) (st : Int32) (lf : Int32) (ao : Int32) (sib : Int32) (wr : Rw) (tw : Tk) (cr : Rw) (tr : Tk) (bad : Int32) (p0 : Int32) (p1 : Int32) (p2 : Int32) (p3 : Int32) : vx_Met l yX2_sum (Cond.code yX2_sum cX2_sum 6 (some .int) :: G) ({ frames := 6, cells := 1, slots := 6, locals := 82 } : Room) (va_Pc [.ref ox, .int p0, .int p1, .int p2, .int p3] (fun U => U.heap.size = sz ∧ va_P (dC, dI) vwCl [(ox, .inr (2, [.int st, .int lf, .int ao, .ref ow, .ref og, .ref oc, .ref od, .int bad])), (ow, .inr (0, [.int lf, .ref oaw, .int wr.2])), (oaw, .inl (cIw, 600, .inl wr.1)), (og, .inr (1, [.ref ow, .int st, .int sib, .int tw.1, .int tw.2.1, .int tw.2.2.1, .int tw.2.2.2])), (oc, .inr (0, [.int lf, .ref oac, .int cr.2])), (oac, .inl (cIc, 600, .inl cr.1)), (od, .inr (1, [.ref oc, .int st, .int sib, .int tr.1, .int tr.2.1, .int tr.2.2.1, .int tr.2.2.2]))] U.heap ∧ va_K (dC, dI) vwCl [(cIw, .int), (cIc, .int)] U ∧ va_D (fun _ => True) [(ox, .inr (2, [.int st, .int lf, .int ao, .ref ow, .ref og, .ref oc, .ref od, .int bad])), (ow, .inr (0, [.int lf, .ref oaw, .int wr.2])), (oaw, .inl (cIw, 600, .inl wr.1)), (og, .inr (1, [.ref ow, .int st, .int sib, .int tw.1, .int tw.2.1, .int tw.2.2.1, .int tw.2.2.2])), (oc, .inr (0, [.int lf, .ref oac, .int cr.2])), (oac, .inl (cIc, 600, .inl cr.1)), (od, .inr (1, [.ref oc, .int st, .int sib, .int tr.1, .int tr.2.1, .int tr.2.2.1, .int tr.2.2.2]))] ∧ zOk U ∧ zSt (va_A [(ox, .inr (2, [.int st, .int lf, .int ao, .ref ow, .ref og, .ref oc, .ref od, .int bad])), (ow, .inr (0, [.int lf, .ref oaw, .int wr.2])), (oaw, .inl (cIw, 600, .inl wr.1)), (og, .inr (1, [.ref ow, .int st, .int sib, .int tw.1, .int tw.2.1, .int tw.2.2.1, .int tw.2.2.2])), (oc, .inr (0, [.int lf, .ref oac, .int cr.2])), (oac, .inl (cIc, 600, .inl cr.1)), (od, .inr (1, [.ref oc, .int st, .int sib, .int tr.1, .int tr.2.1, .int tr.2.2.1, .int tr.2.2.2]))] sz) U U.heap)) (va_Qi (fun (r : Int32) (u : Unit) => Sum.inr r = (FX2_sum st lf ao sib wr tw cr tr bad p0 p1 p2 p3)) (fun (u : Unit) (t : State) => va_P (dC, dI) vwCl [(ox, .inr (2, [.int st, .int lf, .int ao, .ref ow, .ref og, .ref oc, .ref od, .int bad])), (ow, .inr (0, [.int lf, .ref oaw, .int wr.2])), (oaw, .inl (cIw, 600, .inl wr.1)), (og, .inr (1, [.ref ow, .int st, .int sib, .int tw.1, .int tw.2.1, .int tw.2.2.1, .int tw.2.2.2])), (oc, .inr (0, [.int lf, .ref oac, .int cr.2])), (oac, .inl (cIc, 600, .inl cr.1)), (od, .inr (1, [.ref oc, .int st, .int sib, .int tr.1, .int tr.2.1, .int tr.2.2.1, .int tr.2.2.2]))] t.heap ∧ va_D (va_A [(ox, .inr (2, [.int st, .int lf, .int ao, .ref ow, .ref og, .ref oc, .ref od, .int bad])), (ow, .inr (0, [.int lf, .ref oaw, .int wr.2])), (oaw, .inl (cIw, 600, .inl wr.1)), (og, .inr (1, [.ref ow, .int st, .int sib, .int tw.1, .int tw.2.1, .int tw.2.2.1, .int tw.2.2.2])), (oc, .inr (0, [.int lf, .ref oac, .int cr.2])), (oac, .inl (cIc, 600, .inl cr.1)), (od, .inr (1, [.ref oc, .int st, .int sib, .int tr.1, .int tr.2.1, .int tr.2.2.1, .int tr.2.2.2]))] sz) [(ox, .inr (2, [.int st, .int lf, .int ao, .ref ow, .ref og, .ref oc, .ref od, .int bad])), (ow, .inr (0, [.int lf, .ref oaw, .int wr.2])), (oaw, .inl (cIw, 600, .inl wr.1)), (og, .inr (1, [.ref ow, .int st, .int sib, .int tw.1, .int tw.2.1, .int tw.2.2.1, .int tw.2.2.2])), (oc, .inr (0, [.int lf, .ref oac, .int cr.2])), (oac, .inl (cIc, 600, .inl cr.1)), (od, .inr (1, [.ref oc, .int st, .int sib, .int tr.1, .int tr.2.1, .int tr.2.2.1, .int tr.2.2.2]))]) (va_A [(ox, .inr (2, [.int st, .int lf, .int ao, .ref ow, .ref og, .ref oc, .ref od, .int bad])), (ow, .inr (0, [.int lf, .ref oaw, .int wr.2])), (oaw, .inl (cIw, 600, .inl wr.1)), (og, .inr (1, [.ref ow, .int st, .int sib, .int tw.1, .int tw.2.1, .int tw.2.2.1, .int tw.2.2.2])), (oc, .inr (0, [.int lf, .ref oac, .int cr.2])), (oac, .inl (cIc, 600, .inl cr.1)), (od, .inr (1, [.ref oc, .int st, .int sib, .int tr.1, .int tr.2.1, .int tr.2.2.1, .int tr.2.2.2]))] sz)) (vx_X (fun (_ : Unit) => True) (fun E _ t => Sum.inl E = (FX2_sum st lf ao sib wr tw cr tr bad p0 p1 p2 p3) ∧ va_P (dC, dI) vwCl [(ox, .inr (2, [.int st, .int lf, .int ao, .ref ow, .ref og, .ref oc, .ref od, .int bad])), (ow, .inr (0, [.int lf, .ref oaw, .int wr.2])), (oaw, .inl (cIw, 600, .inl wr.1)), (og, .inr (1, [.ref ow, .int st, .int sib, .int tw.1, .int tw.2.1, .int tw.2.2.1, .int tw.2.2.2])), (oc, .inr (0, [.int lf, .ref oac, .int cr.2])), (oac, .inl (cIc, 600, .inl cr.1)), (od, .inr (1, [.ref oc, .int st, .int sib, .int tr.1, .int tr.2.1, .int tr.2.2.1, .int tr.2.2.2]))] t.heap ∧ va_D (va_A [(ox, .inr (2, [.int st, .int lf, .int ao, .ref ow, .ref og, .ref oc, .ref od, .int bad])), (ow, .inr (0, [.int lf, .ref oaw, .int wr.2])), (oaw, .inl (cIw, 600, .inl wr.1)), (og, .inr (1, [.ref ow, .int st, .int sib, .int tw.1, .int tw.2.1, .int tw.2.2.1, .int tw.2.2.2])), (oc, .inr (0, [.int lf, .ref oac, .int cr.2])), (oac, .inl (cIc, 600, .inl cr.1)), (od, .inr (1, [.ref oc, .int st, .int sib, .int tr.1, .int tr.2.1, .int tr.2.2.1, .int tr.2.2.2]))] sz) [(ox, .inr (2, [.int st, .int lf, .int ao, .ref ow, .ref og, .ref oc, .ref od, .int bad])), (ow, .inr (0, [.int lf, .ref oaw, .int wr.2])), (oaw, .inl (cIw, 600, .inl wr.1)), (og, .inr (1, [.ref ow, .int st, .int sib, .int tw.1, .int tw.2.1, .int tw.2.2.1, .int tw.2.2.2])), (oc, .inr (0, [.int lf, .ref oac, .int cr.2])), (oac, .inl (cIc, 600, .inl cr.1)), (od, .inr (1, [.ref oc, .int st, .int sib, .int tr.1, .int tr.2.1, .int tr.2.2.1, .int tr.2.2.2]))]) (va_A [(ox, .inr (2, [.int st, .int lf, .int ao, .ref ow, .ref og, .ref oc, .ref od, .int bad])), (ow, .inr (0, [.int lf, .ref oaw, .int wr.2])), (oaw, .inl (cIw, 600, .inl wr.1)), (og, .inr (1, [.ref ow, .int st, .int sib, .int tw.1, .int tw.2.1, .int tw.2.2.1, .int tw.2.2.2])), (oc, .inr (0, [.int lf, .ref oac, .int cr.2])), (oac, .inl (cIc, 600, .inl cr.1)), (od, .inr (1, [.ref oc, .int st, .int sib, .int tr.1, .int tr.2.1, .int tr.2.2.1, .int tr.2.2.2]))] sz)) 1 6 (va_A [(ox, .inr (2, [.int st, .int lf, .int ao, .ref ow, .ref og, .ref oc, .ref od, .int bad])), (ow, .inr (0, [.int lf, .ref oaw, .int wr.2])), (oaw, .inl (cIw, 600, .inl wr.1)), (og, .inr (1, [.ref ow, .int st, .int sib, .int tw.1, .int tw.2.1, .int tw.2.2.1, .int tw.2.2.2])), (oc, .inr (0, [.int lf, .ref oac, .int cr.2])), (oac, .inl (cIc, 600, .inl cr.1)), (od, .inr (1, [.ref oc, .int st, .int sib, .int tr.1, .int tr.2.1, .int tr.2.2.1, .int tr.2.2.2]))] sz) := by
  refine vx_ofW (cc := cX2_sum) (maxL := 6) (ret := (some .int)) (by decide) rfl ?_
  intro p e s m args below meth c s₁ B hml hE hv
  obtain ⟨rfl, hsz, hP, hK, hD0, hZ, hQ⟩ := hv
  have hx := B.exec
  have hb := B.bytes
  have hr := B.returns
  have hts : ∀ w ∈ G, w.before [.ref ox, .int p0, .int p1, .int p2, .int p3].toArray s = true := fun w h => atoms_spec (ws := (Cond.code yX2_sum cX2_sum 6 (some .int) :: G)) B.pre w (List.mem_cons_of_mem _ h)
  have hown : s.vm.findClass RX2 = some m.cls := findClass_of_methodNamed B.named
  have hlocks := B.notSynchronized
  subst hsz
  have hD := hD0.self (sz := s.heap.size)
  generalize hAe : va_A [(ox, .inr (2, [.int st, .int lf, .int ao, .ref ow, .ref og, .ref oc, .ref od, .int bad])), (ow, .inr (0, [.int lf, .ref oaw, .int wr.2])), (oaw, .inl (cIw, 600, .inl wr.1)), (og, .inr (1, [.ref ow, .int st, .int sib, .int tw.1, .int tw.2.1, .int tw.2.2.1, .int tw.2.2.2])), (oc, .inr (0, [.int lf, .ref oac, .int cr.2])), (oac, .inl (cIc, 600, .inl cr.1)), (od, .inr (1, [.ref oc, .int st, .int sib, .int tr.1, .int tr.2.1, .int tr.2.2.1, .int tr.2.2.2]))] s.heap.size = A at hD hQ ⊢
  have hA : ∀ q : Nat, s.heap.size ≤ q → A q := fun q h => by rw [← hAe]; exact Or.inr h
  have hS : va_S A s.heap s.heap [] := va_S.rf
  have hP : va_P (dC, dI) vwCl [(ox, .inr (2, [.int st, .int lf, .int ao, .ref ow, .ref og, .ref oc, .ref od, .int bad])), (ow, .inr (0, [.int lf, .ref oaw, .int wr.2])), (oaw, .inl (cIw, 600, .inl wr.1)), (og, .inr (1, [.ref ow, .int st, .int sib, .int tw.1, .int tw.2.1, .int tw.2.2.1, .int tw.2.2.2])), (oc, .inr (0, [.int lf, .ref oac, .int cr.2])), (oac, .inl (cIc, 600, .inl cr.1)), (od, .inr (1, [.ref oc, .int st, .int sib, .int tr.1, .int tr.2.1, .int tr.2.2.1, .int tr.2.2.2]))] s.heap := hP
  have hl := lv_entry ([.ref ox, .int p0, .int p1, .int p2, .int p3]) (n := 6) (Nat.le_of_ble_eq_true rfl)
  rw [lg_entry_eq]
  generalize (lg_sl ([.ref ox, .int p0, .int p1, .int p2, .int p3]) ++ List.replicate (6 - (lg_sl ([.ref ox, .int p0, .int p1, .int p2, .int p3])).length) Slot.unset).toArray = ls at hl ⊢
  have hl : lv_has ls 6 [(0, .ref ox), (1, .int p0), (2, .int p1), (3, .int p2), (4, .int p3)] := hl
  refine lv_iload_n hx hb dX2_sum_0 rfl (lv_at hl 2 rfl) ?_
  refine lv_bipush (v := 16) hx hb dX2_sum_1 (by decide) ?_
  refine lv_icmp_eq (tgt := 22) hx hb dX2_sum_3 (by decide) (fun c_3 => ?_) (fun c_3 => ?_)
  · refine lv_iload_n hx hb dX2_sum_22 rfl (lv_at hl 1 rfl) ?_
    refine lv_if_eq (tgt := 33) hx hb dX2_sum_23 (by decide) (fun c_23 => ?_) (fun c_23 => ?_)
    · refine lv_aload_n hx hb dX2_sum_33 rfl (lv_at hl 0 rfl) ?_
      refine va_get (D := (dC, dI)) (ci := 2) (v := .ref ow) (C := RX2) (T := TX2) (N := 8) hx hb hts inGX2 hown hK hP 0 rfl rfl 3 (by decide) (hts _ wd101) (fun _ h9 => h9) rfl dX2_sum_34 ?_
      refine lv_astore (lv' := [(5, .ref ow), (0, .ref ox), (1, .int p0), (2, .int p1), (3, .int p2), (4, .int p3)]) hx hb dX2_sum_37 hl (by decide) rfl (fun ls hl => ?_)
      refine lv_iload_n hx hb dX2_sum_39 rfl (lv_at hl 4 rfl) ?_
      refine lv_if_lt (tgt := 59) hx hb dX2_sum_40 (by decide) (fun c_40 => ?_) (fun c_40 => ?_)
      · obtain ⟨sa, hstr⟩ := hZ.2 (168, "not all of these bytes are there") (by decide)
        exact vx_throwS (own := RX2) (cls := "java/lang/IndexOutOfBoundsException") (names := ["java/lang/RuntimeException", "java/lang/Exception"]) hx hb hlt hown (by decide +kernel) (by decide +kernel) (hts _ wd346) (hts _ wd37) hstr (fun w h => (xat_103 w h).elim (hts w) (fun q => hZ.use q.1 q.2)) xgood_103 hQ.1 hQ.2 hS (hl.1.trans hml.symm) dX2_sum_59 dX2_sum_62 dX2_sum_63 dX2_sum_65 dX2_sum_68 (fun x h => (hE x h).elim) (Nat.le_of_ble_eq_true rfl) (Nat.le_of_ble_eq_true rfl) (Nat.le_of_ble_eq_true rfl) (Nat.le_of_ble_eq_true rfl) hlocks (fun t hvm hz hk => ⟨(), trivial, ⟨(plX2_sum_0 st lf ao sib wr tw cr tr bad p0 p1 p2 p3 c_3 c_23 c_40), (x_at hS hP hz hk).1, hD⟩, (x_at hS hP hz hk).2⟩) hS.2.2 (by omega) (by omega)
      · refine lv_iload hx hb dX2_sum_43 (lv_at hl 5 rfl) ?_
        refine lv_iload_n hx hb dX2_sum_45 rfl (lv_at hl 4 rfl) ?_
        refine lv_icmp_lt (tgt := 59) hx hb dX2_sum_46 (by decide) (fun c_46 => ?_) (fun c_46 => ?_)
        · obtain ⟨sa, hstr⟩ := hZ.2 (168, "not all of these bytes are there") (by decide)
          exact vx_throwS (own := RX2) (cls := "java/lang/IndexOutOfBoundsException") (names := ["java/lang/RuntimeException", "java/lang/Exception"]) hx hb hlt hown (by decide +kernel) (by decide +kernel) (hts _ wd346) (hts _ wd37) hstr (fun w h => (xat_103 w h).elim (hts w) (fun q => hZ.use q.1 q.2)) xgood_103 hQ.1 hQ.2 hS (hl.1.trans hml.symm) dX2_sum_59 dX2_sum_62 dX2_sum_63 dX2_sum_65 dX2_sum_68 (fun x h => (hE x h).elim) (Nat.le_of_ble_eq_true rfl) (Nat.le_of_ble_eq_true rfl) (Nat.le_of_ble_eq_true rfl) (Nat.le_of_ble_eq_true rfl) hlocks (fun t hvm hz hk => ⟨(), trivial, ⟨(plX2_sum_1 st lf ao sib wr tw cr tr bad p0 p1 p2 p3 c_3 c_23 c_40 c_46), (x_at hS hP hz hk).1, hD⟩, (x_at hS hP hz hk).2⟩) hS.2.2 (by omega) (by omega)
        · refine lv_iload hx hb dX2_sum_49 (lv_at hl 5 rfl) ?_
          refine lv_aload hx hb dX2_sum_51 (lv_at hl 0 rfl) ?_
          refine va_getN (D := (dC, dI)) (ci := 0) (v := .int wr.2) (C := RX0) (T := TX0) (N := 3) hx hb hts inGX0 hown hK hP 1 rfl rfl 2 (by decide) (hZ.use zw1 rfl) (fun _ h9 => h9) rfl dX2_sum_53 ?_
          refine lv_icmp_le (tgt := 69) hx hb dX2_sum_56 (by decide) (fun c_56 => ?_) (fun c_56 => ?_)
          · refine lv_iload_n hx hb dX2_sum_69 rfl (lv_at hl 3 rfl) ?_
            refine lv_bipush (v := 16) hx hb dX2_sum_70 (by decide) ?_
            refine lv_icmp_ne (tgt := 86) hx hb dX2_sum_72 (by decide) (fun c_72 => ?_) (fun c_72 => ?_)
            · refine lv_aload hx hb dX2_sum_86 (lv_at hl 0 rfl) ?_
              refine lv_iload_n hx hb dX2_sum_88 rfl (lv_at hl 4 rfl) ?_
              refine lv_iload hx hb dX2_sum_89 (lv_at hl 5 rfl) ?_
              have hPc := hP.sub (ws' := [(ow, .inr (0, [.int lf, .ref oaw, .int wr.2])), (oaw, .inl (cIw, 600, .inl wr.1))]) [1, 2] rfl
              have hKc := hK.sub (tys' := [(cIw, .int)]) [0] rfl
              refine vp_callSi (va_Run.run (va_runV (As := [.int p2, .int p3]) (rest := []) ⟨hx, hb, hml, hown, hts⟩ (mX0_sumOf32 l dC dI cIw ow oaw lf wr p2 p3) (cwV 2 hts (gV wd426 wd427 wd428 wd28 wd429) rfl rfl rfl (by decide +kernel) ⟨Nat.le_of_ble_eq_true rfl, Nat.le_of_ble_eq_true rfl⟩) ⟨fb_ro, va_recv hKc hPc (ci := 0) (q0 := 0) rfl rfl, pre_ro hPc hKc hZ⟩ rfl rfl hl.1 rfl (lv_room (Nat.le_of_ble_eq_true rfl)) dX2_sum_91 ⟨Nat.le_of_ble_eq_true rfl, Nat.le_of_ble_eq_true rfl⟩)) (fun r_1 hw_2 => ?_)
              have hP9 := hP.sub (ws' := [(ox, .inr (2, [.int st, .int lf, .int ao, .ref ow, .ref og, .ref oc, .ref od, .int bad])), (ow, .inr (0, [.int lf, .ref oaw, .int wr.2])), (oaw, .inl (cIw, 600, .inl wr.1)), (og, .inr (1, [.ref ow, .int st, .int sib, .int tw.1, .int tw.2.1, .int tw.2.2.1, .int tw.2.2.2])), (oc, .inr (0, [.int lf, .ref oac, .int cr.2])), (oac, .inl (cIc, 600, .inl cr.1)), (od, .inr (1, [.ref oc, .int st, .int sib, .int tr.1, .int tr.2.1, .int tr.2.2.1, .int tr.2.2.2]))]) [0, 1, 2, 3, 4, 5, 6] rfl
              have hD9 := hD.sub (ws' := [(ox, .inr (2, [.int st, .int lf, .int ao, .ref ow, .ref og, .ref oc, .ref od, .int bad])), (ow, .inr (0, [.int lf, .ref oaw, .int wr.2])), (oaw, .inl (cIw, 600, .inl wr.1)), (og, .inr (1, [.ref ow, .int st, .int sib, .int tw.1, .int tw.2.1, .int tw.2.2.1, .int tw.2.2.2])), (oc, .inr (0, [.int lf, .ref oac, .int cr.2])), (oac, .inl (cIc, 600, .inl cr.1)), (od, .inr (1, [.ref oc, .int st, .int sib, .int tr.1, .int tr.2.1, .int tr.2.2.1, .int tr.2.2.2]))]) [0, 1, 2, 3, 4, 5, 6] (by decide) rfl
              refine vx_ret ?_
              refine W.widen (k := 1) (n := 6) (by omega) (by omega) ?_
              exact W.iret (v := r_1) hx hb hr (fun t ht hW => ⟨⟨r_1, (), rfl, (plX2_sum_2 st lf ao sib wr tw cr tr bad p0 p1 p2 p3 c_3 c_23 c_40 c_46 c_56 c_72 _ hw_2), by rw [ht]; exact hP9, hD9⟩, hS.F ht⟩) hS.2.2 dX2_sum_94
            · refine lv_aload hx hb dX2_sum_75 (lv_at hl 0 rfl) ?_
              refine lv_iload_n hx hb dX2_sum_77 rfl (lv_at hl 4 rfl) ?_
              refine lv_iload hx hb dX2_sum_78 (lv_at hl 5 rfl) ?_
              have hPc := hP.sub (ws' := [(ow, .inr (0, [.int lf, .ref oaw, .int wr.2])), (oaw, .inl (cIw, 600, .inl wr.1))]) [1, 2] rfl
              have hKc := hK.sub (tys' := [(cIw, .int)]) [0] rfl
              refine vp_callSi (va_Run.run (va_runV (As := [.int p2, .int p3]) (rest := []) ⟨hx, hb, hml, hown, hts⟩ (mX0_sumOf16 l dC dI cIw ow oaw lf wr p2 p3) (cwV 2 hts (gV wd420 wd421 wd422 wd28 wd423) rfl rfl rfl (by decide +kernel) ⟨Nat.le_of_ble_eq_true rfl, Nat.le_of_ble_eq_true rfl⟩) ⟨fb_ro, va_recv hKc hPc (ci := 0) (q0 := 0) rfl rfl, pre_ro hPc hKc hZ⟩ rfl rfl hl.1 rfl (lv_room (Nat.le_of_ble_eq_true rfl)) dX2_sum_80 ⟨Nat.le_of_ble_eq_true rfl, Nat.le_of_ble_eq_true rfl⟩)) (fun r_3 hw_4 => ?_)
              refine lv_goto (tgt := 94) hx hb dX2_sum_83 (by decide) ?_
              have hP9 := hP.sub (ws' := [(ox, .inr (2, [.int st, .int lf, .int ao, .ref ow, .ref og, .ref oc, .ref od, .int bad])), (ow, .inr (0, [.int lf, .ref oaw, .int wr.2])), (oaw, .inl (cIw, 600, .inl wr.1)), (og, .inr (1, [.ref ow, .int st, .int sib, .int tw.1, .int tw.2.1, .int tw.2.2.1, .int tw.2.2.2])), (oc, .inr (0, [.int lf, .ref oac, .int cr.2])), (oac, .inl (cIc, 600, .inl cr.1)), (od, .inr (1, [.ref oc, .int st, .int sib, .int tr.1, .int tr.2.1, .int tr.2.2.1, .int tr.2.2.2]))]) [0, 1, 2, 3, 4, 5, 6] rfl
              have hD9 := hD.sub (ws' := [(ox, .inr (2, [.int st, .int lf, .int ao, .ref ow, .ref og, .ref oc, .ref od, .int bad])), (ow, .inr (0, [.int lf, .ref oaw, .int wr.2])), (oaw, .inl (cIw, 600, .inl wr.1)), (og, .inr (1, [.ref ow, .int st, .int sib, .int tw.1, .int tw.2.1, .int tw.2.2.1, .int tw.2.2.2])), (oc, .inr (0, [.int lf, .ref oac, .int cr.2])), (oac, .inl (cIc, 600, .inl cr.1)), (od, .inr (1, [.ref oc, .int st, .int sib, .int tr.1, .int tr.2.1, .int tr.2.2.1, .int tr.2.2.2]))]) [0, 1, 2, 3, 4, 5, 6] (by decide) rfl
              refine vx_ret ?_
              refine W.widen (k := 1) (n := 6) (by omega) (by omega) ?_
              exact W.iret (v := r_3) hx hb hr (fun t ht hW => ⟨⟨r_3, (), rfl, (plX2_sum_3 st lf ao sib wr tw cr tr bad p0 p1 p2 p3 c_3 c_23 c_40 c_46 c_56 c_72 _ hw_4), by rw [ht]; exact hP9, hD9⟩, hS.F ht⟩) hS.2.2 dX2_sum_94
          · obtain ⟨sa, hstr⟩ := hZ.2 (168, "not all of these bytes are there") (by decide)
            exact vx_throwS (own := RX2) (cls := "java/lang/IndexOutOfBoundsException") (names := ["java/lang/RuntimeException", "java/lang/Exception"]) hx hb hlt hown (by decide +kernel) (by decide +kernel) (hts _ wd346) (hts _ wd37) hstr (fun w h => (xat_103 w h).elim (hts w) (fun q => hZ.use q.1 q.2)) xgood_103 hQ.1 hQ.2 hS (hl.1.trans hml.symm) dX2_sum_59 dX2_sum_62 dX2_sum_63 dX2_sum_65 dX2_sum_68 (fun x h => (hE x h).elim) (Nat.le_of_ble_eq_true rfl) (Nat.le_of_ble_eq_true rfl) (Nat.le_of_ble_eq_true rfl) (Nat.le_of_ble_eq_true rfl) hlocks (fun t hvm hz hk => ⟨(), trivial, ⟨(plX2_sum_4 st lf ao sib wr tw cr tr bad p0 p1 p2 p3 c_3 c_23 c_40 c_46 c_56), (x_at hS hP hz hk).1, hD⟩, (x_at hS hP hz hk).2⟩) hS.2.2 (by omega) (by omega)
    · refine lv_aload_n hx hb dX2_sum_26 rfl (lv_at hl 0 rfl) ?_
      refine va_get (D := (dC, dI)) (ci := 2) (v := .ref oc) (C := RX2) (T := TX2) (N := 8) hx hb hts inGX2 hown hK hP 0 rfl rfl 5 (by decide) (hts _ wd103) (fun _ h9 => h9) rfl dX2_sum_27 ?_
      refine lv_goto (tgt := 37) hx hb dX2_sum_30 (by decide) ?_
      refine lv_astore (lv' := [(5, .ref oc), (0, .ref ox), (1, .int p0), (2, .int p1), (3, .int p2), (4, .int p3)]) hx hb dX2_sum_37 hl (by decide) rfl (fun ls hl => ?_)
      refine lv_iload_n hx hb dX2_sum_39 rfl (lv_at hl 4 rfl) ?_
      refine lv_if_lt (tgt := 59) hx hb dX2_sum_40 (by decide) (fun c_40 => ?_) (fun c_40 => ?_)
      · obtain ⟨sa, hstr⟩ := hZ.2 (168, "not all of these bytes are there") (by decide)
        exact vx_throwS (own := RX2) (cls := "java/lang/IndexOutOfBoundsException") (names := ["java/lang/RuntimeException", "java/lang/Exception"]) hx hb hlt hown (by decide +kernel) (by decide +kernel) (hts _ wd346) (hts _ wd37) hstr (fun w h => (xat_103 w h).elim (hts w) (fun q => hZ.use q.1 q.2)) xgood_103 hQ.1 hQ.2 hS (hl.1.trans hml.symm) dX2_sum_59 dX2_sum_62 dX2_sum_63 dX2_sum_65 dX2_sum_68 (fun x h => (hE x h).elim) (Nat.le_of_ble_eq_true rfl) (Nat.le_of_ble_eq_true rfl) (Nat.le_of_ble_eq_true rfl) (Nat.le_of_ble_eq_true rfl) hlocks (fun t hvm hz hk => ⟨(), trivial, ⟨(plX2_sum_5 st lf ao sib wr tw cr tr bad p0 p1 p2 p3 c_3 c_23 c_40), (x_at hS hP hz hk).1, hD⟩, (x_at hS hP hz hk).2⟩) hS.2.2 (by omega) (by omega)
      · refine lv_iload hx hb dX2_sum_43 (lv_at hl 5 rfl) ?_
        refine lv_iload_n hx hb dX2_sum_45 rfl (lv_at hl 4 rfl) ?_
        refine lv_icmp_lt (tgt := 59) hx hb dX2_sum_46 (by decide) (fun c_46 => ?_) (fun c_46 => ?_)
        · obtain ⟨sa, hstr⟩ := hZ.2 (168, "not all of these bytes are there") (by decide)
          exact vx_throwS (own := RX2) (cls := "java/lang/IndexOutOfBoundsException") (names := ["java/lang/RuntimeException", "java/lang/Exception"]) hx hb hlt hown (by decide +kernel) (by decide +kernel) (hts _ wd346) (hts _ wd37) hstr (fun w h => (xat_103 w h).elim (hts w) (fun q => hZ.use q.1 q.2)) xgood_103 hQ.1 hQ.2 hS (hl.1.trans hml.symm) dX2_sum_59 dX2_sum_62 dX2_sum_63 dX2_sum_65 dX2_sum_68 (fun x h => (hE x h).elim) (Nat.le_of_ble_eq_true rfl) (Nat.le_of_ble_eq_true rfl) (Nat.le_of_ble_eq_true rfl) (Nat.le_of_ble_eq_true rfl) hlocks (fun t hvm hz hk => ⟨(), trivial, ⟨(plX2_sum_6 st lf ao sib wr tw cr tr bad p0 p1 p2 p3 c_3 c_23 c_40 c_46), (x_at hS hP hz hk).1, hD⟩, (x_at hS hP hz hk).2⟩) hS.2.2 (by omega) (by omega)
        · refine lv_iload hx hb dX2_sum_49 (lv_at hl 5 rfl) ?_
          refine lv_aload hx hb dX2_sum_51 (lv_at hl 0 rfl) ?_
          refine va_getN (D := (dC, dI)) (ci := 0) (v := .int cr.2) (C := RX0) (T := TX0) (N := 3) hx hb hts inGX0 hown hK hP 4 rfl rfl 2 (by decide) (hZ.use zw1 rfl) (fun _ h9 => h9) rfl dX2_sum_53 ?_
          refine lv_icmp_le (tgt := 69) hx hb dX2_sum_56 (by decide) (fun c_56 => ?_) (fun c_56 => ?_)
          · refine lv_iload_n hx hb dX2_sum_69 rfl (lv_at hl 3 rfl) ?_
            refine lv_bipush (v := 16) hx hb dX2_sum_70 (by decide) ?_
            refine lv_icmp_ne (tgt := 86) hx hb dX2_sum_72 (by decide) (fun c_72 => ?_) (fun c_72 => ?_)
            · refine lv_aload hx hb dX2_sum_86 (lv_at hl 0 rfl) ?_
              refine lv_iload_n hx hb dX2_sum_88 rfl (lv_at hl 4 rfl) ?_
              refine lv_iload hx hb dX2_sum_89 (lv_at hl 5 rfl) ?_
              have hPc := hP.sub (ws' := [(oc, .inr (0, [.int lf, .ref oac, .int cr.2])), (oac, .inl (cIc, 600, .inl cr.1))]) [4, 5] rfl
              have hKc := hK.sub (tys' := [(cIc, .int)]) [1] rfl
              refine vp_callSi (va_Run.run (va_runV (As := [.int p2, .int p3]) (rest := []) ⟨hx, hb, hml, hown, hts⟩ (mX0_sumOf32 l dC dI cIc oc oac lf cr p2 p3) (cwV 2 hts (gV wd426 wd427 wd428 wd28 wd429) rfl rfl rfl (by decide +kernel) ⟨Nat.le_of_ble_eq_true rfl, Nat.le_of_ble_eq_true rfl⟩) ⟨fb_ro, va_recv hKc hPc (ci := 0) (q0 := 0) rfl rfl, pre_ro hPc hKc hZ⟩ rfl rfl hl.1 rfl (lv_room (Nat.le_of_ble_eq_true rfl)) dX2_sum_91 ⟨Nat.le_of_ble_eq_true rfl, Nat.le_of_ble_eq_true rfl⟩)) (fun r_5 hw_6 => ?_)
              have hP9 := hP.sub (ws' := [(ox, .inr (2, [.int st, .int lf, .int ao, .ref ow, .ref og, .ref oc, .ref od, .int bad])), (ow, .inr (0, [.int lf, .ref oaw, .int wr.2])), (oaw, .inl (cIw, 600, .inl wr.1)), (og, .inr (1, [.ref ow, .int st, .int sib, .int tw.1, .int tw.2.1, .int tw.2.2.1, .int tw.2.2.2])), (oc, .inr (0, [.int lf, .ref oac, .int cr.2])), (oac, .inl (cIc, 600, .inl cr.1)), (od, .inr (1, [.ref oc, .int st, .int sib, .int tr.1, .int tr.2.1, .int tr.2.2.1, .int tr.2.2.2]))]) [0, 1, 2, 3, 4, 5, 6] rfl
              have hD9 := hD.sub (ws' := [(ox, .inr (2, [.int st, .int lf, .int ao, .ref ow, .ref og, .ref oc, .ref od, .int bad])), (ow, .inr (0, [.int lf, .ref oaw, .int wr.2])), (oaw, .inl (cIw, 600, .inl wr.1)), (og, .inr (1, [.ref ow, .int st, .int sib, .int tw.1, .int tw.2.1, .int tw.2.2.1, .int tw.2.2.2])), (oc, .inr (0, [.int lf, .ref oac, .int cr.2])), (oac, .inl (cIc, 600, .inl cr.1)), (od, .inr (1, [.ref oc, .int st, .int sib, .int tr.1, .int tr.2.1, .int tr.2.2.1, .int tr.2.2.2]))]) [0, 1, 2, 3, 4, 5, 6] (by decide) rfl
              refine vx_ret ?_
              refine W.widen (k := 1) (n := 6) (by omega) (by omega) ?_
              exact W.iret (v := r_5) hx hb hr (fun t ht hW => ⟨⟨r_5, (), rfl, (plX2_sum_7 st lf ao sib wr tw cr tr bad p0 p1 p2 p3 c_3 c_23 c_40 c_46 c_56 c_72 _ hw_6), by rw [ht]; exact hP9, hD9⟩, hS.F ht⟩) hS.2.2 dX2_sum_94
            · refine lv_aload hx hb dX2_sum_75 (lv_at hl 0 rfl) ?_
              refine lv_iload_n hx hb dX2_sum_77 rfl (lv_at hl 4 rfl) ?_
              refine lv_iload hx hb dX2_sum_78 (lv_at hl 5 rfl) ?_
              have hPc := hP.sub (ws' := [(oc, .inr (0, [.int lf, .ref oac, .int cr.2])), (oac, .inl (cIc, 600, .inl cr.1))]) [4, 5] rfl
              have hKc := hK.sub (tys' := [(cIc, .int)]) [1] rfl
              refine vp_callSi (va_Run.run (va_runV (As := [.int p2, .int p3]) (rest := []) ⟨hx, hb, hml, hown, hts⟩ (mX0_sumOf16 l dC dI cIc oc oac lf cr p2 p3) (cwV 2 hts (gV wd420 wd421 wd422 wd28 wd423) rfl rfl rfl (by decide +kernel) ⟨Nat.le_of_ble_eq_true rfl, Nat.le_of_ble_eq_true rfl⟩) ⟨fb_ro, va_recv hKc hPc (ci := 0) (q0 := 0) rfl rfl, pre_ro hPc hKc hZ⟩ rfl rfl hl.1 rfl (lv_room (Nat.le_of_ble_eq_true rfl)) dX2_sum_80 ⟨Nat.le_of_ble_eq_true rfl, Nat.le_of_ble_eq_true rfl⟩)) (fun r_7 hw_8 => ?_)
              refine lv_goto (tgt := 94) hx hb dX2_sum_83 (by decide) ?_
              have hP9 := hP.sub (ws' := [(ox, .inr (2, [.int st, .int lf, .int ao, .ref ow, .ref og, .ref oc, .ref od, .int bad])), (ow, .inr (0, [.int lf, .ref oaw, .int wr.2])), (oaw, .inl (cIw, 600, .inl wr.1)), (og, .inr (1, [.ref ow, .int st, .int sib, .int tw.1, .int tw.2.1, .int tw.2.2.1, .int tw.2.2.2])), (oc, .inr (0, [.int lf, .ref oac, .int cr.2])), (oac, .inl (cIc, 600, .inl cr.1)), (od, .inr (1, [.ref oc, .int st, .int sib, .int tr.1, .int tr.2.1, .int tr.2.2.1, .int tr.2.2.2]))]) [0, 1, 2, 3, 4, 5, 6] rfl
              have hD9 := hD.sub (ws' := [(ox, .inr (2, [.int st, .int lf, .int ao, .ref ow, .ref og, .ref oc, .ref od, .int bad])), (ow, .inr (0, [.int lf, .ref oaw, .int wr.2])), (oaw, .inl (cIw, 600, .inl wr.1)), (og, .inr (1, [.ref ow, .int st, .int sib, .int tw.1, .int tw.2.1, .int tw.2.2.1, .int tw.2.2.2])), (oc, .inr (0, [.int lf, .ref oac, .int cr.2])), (oac, .inl (cIc, 600, .inl cr.1)), (od, .inr (1, [.ref oc, .int st, .int sib, .int tr.1, .int tr.2.1, .int tr.2.2.1, .int tr.2.2.2]))]) [0, 1, 2, 3, 4, 5, 6] (by decide) rfl
              refine vx_ret ?_
              refine W.widen (k := 1) (n := 6) (by omega) (by omega) ?_
              exact W.iret (v := r_7) hx hb hr (fun t ht hW => ⟨⟨r_7, (), rfl, (plX2_sum_8 st lf ao sib wr tw cr tr bad p0 p1 p2 p3 c_3 c_23 c_40 c_46 c_56 c_72 _ hw_8), by rw [ht]; exact hP9, hD9⟩, hS.F ht⟩) hS.2.2 dX2_sum_94
          · obtain ⟨sa, hstr⟩ := hZ.2 (168, "not all of these bytes are there") (by decide)
            exact vx_throwS (own := RX2) (cls := "java/lang/IndexOutOfBoundsException") (names := ["java/lang/RuntimeException", "java/lang/Exception"]) hx hb hlt hown (by decide +kernel) (by decide +kernel) (hts _ wd346) (hts _ wd37) hstr (fun w h => (xat_103 w h).elim (hts w) (fun q => hZ.use q.1 q.2)) xgood_103 hQ.1 hQ.2 hS (hl.1.trans hml.symm) dX2_sum_59 dX2_sum_62 dX2_sum_63 dX2_sum_65 dX2_sum_68 (fun x h => (hE x h).elim) (Nat.le_of_ble_eq_true rfl) (Nat.le_of_ble_eq_true rfl) (Nat.le_of_ble_eq_true rfl) (Nat.le_of_ble_eq_true rfl) hlocks (fun t hvm hz hk => ⟨(), trivial, ⟨(plX2_sum_9 st lf ao sib wr tw cr tr bad p0 p1 p2 p3 c_3 c_23 c_40 c_46 c_56), (x_at hS hP hz hk).1, hD⟩, (x_at hS hP hz hk).2⟩) hS.2.2 (by omega) (by omega)
  · refine lv_iload_n hx hb dX2_sum_6 rfl (lv_at hl 2 rfl) ?_
    refine lv_bipush (v := 32) hx hb dX2_sum_7 (by decide) ?_
    refine lv_icmp_eq (tgt := 22) hx hb dX2_sum_9 (by decide) (fun c_9 => ?_) (fun c_9 => ?_)
    · refine lv_iload_n hx hb dX2_sum_22 rfl (lv_at hl 1 rfl) ?_
      refine lv_if_eq (tgt := 33) hx hb dX2_sum_23 (by decide) (fun c_23 => ?_) (fun c_23 => ?_)
      · refine lv_aload_n hx hb dX2_sum_33 rfl (lv_at hl 0 rfl) ?_
        refine va_get (D := (dC, dI)) (ci := 2) (v := .ref ow) (C := RX2) (T := TX2) (N := 8) hx hb hts inGX2 hown hK hP 0 rfl rfl 3 (by decide) (hts _ wd101) (fun _ h9 => h9) rfl dX2_sum_34 ?_
        refine lv_astore (lv' := [(5, .ref ow), (0, .ref ox), (1, .int p0), (2, .int p1), (3, .int p2), (4, .int p3)]) hx hb dX2_sum_37 hl (by decide) rfl (fun ls hl => ?_)
        refine lv_iload_n hx hb dX2_sum_39 rfl (lv_at hl 4 rfl) ?_
        refine lv_if_lt (tgt := 59) hx hb dX2_sum_40 (by decide) (fun c_40 => ?_) (fun c_40 => ?_)
        · obtain ⟨sa, hstr⟩ := hZ.2 (168, "not all of these bytes are there") (by decide)
          exact vx_throwS (own := RX2) (cls := "java/lang/IndexOutOfBoundsException") (names := ["java/lang/RuntimeException", "java/lang/Exception"]) hx hb hlt hown (by decide +kernel) (by decide +kernel) (hts _ wd346) (hts _ wd37) hstr (fun w h => (xat_103 w h).elim (hts w) (fun q => hZ.use q.1 q.2)) xgood_103 hQ.1 hQ.2 hS (hl.1.trans hml.symm) dX2_sum_59 dX2_sum_62 dX2_sum_63 dX2_sum_65 dX2_sum_68 (fun x h => (hE x h).elim) (Nat.le_of_ble_eq_true rfl) (Nat.le_of_ble_eq_true rfl) (Nat.le_of_ble_eq_true rfl) (Nat.le_of_ble_eq_true rfl) hlocks (fun t hvm hz hk => ⟨(), trivial, ⟨(plX2_sum_10 st lf ao sib wr tw cr tr bad p0 p1 p2 p3 c_3 c_9 c_23 c_40), (x_at hS hP hz hk).1, hD⟩, (x_at hS hP hz hk).2⟩) hS.2.2 (by omega) (by omega)
        · refine lv_iload hx hb dX2_sum_43 (lv_at hl 5 rfl) ?_
          refine lv_iload_n hx hb dX2_sum_45 rfl (lv_at hl 4 rfl) ?_
          refine lv_icmp_lt (tgt := 59) hx hb dX2_sum_46 (by decide) (fun c_46 => ?_) (fun c_46 => ?_)
          · obtain ⟨sa, hstr⟩ := hZ.2 (168, "not all of these bytes are there") (by decide)
            exact vx_throwS (own := RX2) (cls := "java/lang/IndexOutOfBoundsException") (names := ["java/lang/RuntimeException", "java/lang/Exception"]) hx hb hlt hown (by decide +kernel) (by decide +kernel) (hts _ wd346) (hts _ wd37) hstr (fun w h => (xat_103 w h).elim (hts w) (fun q => hZ.use q.1 q.2)) xgood_103 hQ.1 hQ.2 hS (hl.1.trans hml.symm) dX2_sum_59 dX2_sum_62 dX2_sum_63 dX2_sum_65 dX2_sum_68 (fun x h => (hE x h).elim) (Nat.le_of_ble_eq_true rfl) (Nat.le_of_ble_eq_true rfl) (Nat.le_of_ble_eq_true rfl) (Nat.le_of_ble_eq_true rfl) hlocks (fun t hvm hz hk => ⟨(), trivial, ⟨(plX2_sum_11 st lf ao sib wr tw cr tr bad p0 p1 p2 p3 c_3 c_9 c_23 c_40 c_46), (x_at hS hP hz hk).1, hD⟩, (x_at hS hP hz hk).2⟩) hS.2.2 (by omega) (by omega)
          · refine lv_iload hx hb dX2_sum_49 (lv_at hl 5 rfl) ?_
            refine lv_aload hx hb dX2_sum_51 (lv_at hl 0 rfl) ?_
            refine va_getN (D := (dC, dI)) (ci := 0) (v := .int wr.2) (C := RX0) (T := TX0) (N := 3) hx hb hts inGX0 hown hK hP 1 rfl rfl 2 (by decide) (hZ.use zw1 rfl) (fun _ h9 => h9) rfl dX2_sum_53 ?_
            refine lv_icmp_le (tgt := 69) hx hb dX2_sum_56 (by decide) (fun c_56 => ?_) (fun c_56 => ?_)
            · refine lv_iload_n hx hb dX2_sum_69 rfl (lv_at hl 3 rfl) ?_
              refine lv_bipush (v := 16) hx hb dX2_sum_70 (by decide) ?_
              refine lv_icmp_ne (tgt := 86) hx hb dX2_sum_72 (by decide) (fun c_72 => ?_) (fun c_72 => ?_)
              · refine lv_aload hx hb dX2_sum_86 (lv_at hl 0 rfl) ?_
                refine lv_iload_n hx hb dX2_sum_88 rfl (lv_at hl 4 rfl) ?_
                refine lv_iload hx hb dX2_sum_89 (lv_at hl 5 rfl) ?_
                have hPc := hP.sub (ws' := [(ow, .inr (0, [.int lf, .ref oaw, .int wr.2])), (oaw, .inl (cIw, 600, .inl wr.1))]) [1, 2] rfl
                have hKc := hK.sub (tys' := [(cIw, .int)]) [0] rfl
                refine vp_callSi (va_Run.run (va_runV (As := [.int p2, .int p3]) (rest := []) ⟨hx, hb, hml, hown, hts⟩ (mX0_sumOf32 l dC dI cIw ow oaw lf wr p2 p3) (cwV 2 hts (gV wd426 wd427 wd428 wd28 wd429) rfl rfl rfl (by decide +kernel) ⟨Nat.le_of_ble_eq_true rfl, Nat.le_of_ble_eq_true rfl⟩) ⟨fb_ro, va_recv hKc hPc (ci := 0) (q0 := 0) rfl rfl, pre_ro hPc hKc hZ⟩ rfl rfl hl.1 rfl (lv_room (Nat.le_of_ble_eq_true rfl)) dX2_sum_91 ⟨Nat.le_of_ble_eq_true rfl, Nat.le_of_ble_eq_true rfl⟩)) (fun r_9 hw_10 => ?_)
                have hP9 := hP.sub (ws' := [(ox, .inr (2, [.int st, .int lf, .int ao, .ref ow, .ref og, .ref oc, .ref od, .int bad])), (ow, .inr (0, [.int lf, .ref oaw, .int wr.2])), (oaw, .inl (cIw, 600, .inl wr.1)), (og, .inr (1, [.ref ow, .int st, .int sib, .int tw.1, .int tw.2.1, .int tw.2.2.1, .int tw.2.2.2])), (oc, .inr (0, [.int lf, .ref oac, .int cr.2])), (oac, .inl (cIc, 600, .inl cr.1)), (od, .inr (1, [.ref oc, .int st, .int sib, .int tr.1, .int tr.2.1, .int tr.2.2.1, .int tr.2.2.2]))]) [0, 1, 2, 3, 4, 5, 6] rfl
                have hD9 := hD.sub (ws' := [(ox, .inr (2, [.int st, .int lf, .int ao, .ref ow, .ref og, .ref oc, .ref od, .int bad])), (ow, .inr (0, [.int lf, .ref oaw, .int wr.2])), (oaw, .inl (cIw, 600, .inl wr.1)), (og, .inr (1, [.ref ow, .int st, .int sib, .int tw.1, .int tw.2.1, .int tw.2.2.1, .int tw.2.2.2])), (oc, .inr (0, [.int lf, .ref oac, .int cr.2])), (oac, .inl (cIc, 600, .inl cr.1)), (od, .inr (1, [.ref oc, .int st, .int sib, .int tr.1, .int tr.2.1, .int tr.2.2.1, .int tr.2.2.2]))]) [0, 1, 2, 3, 4, 5, 6] (by decide) rfl
                refine vx_ret ?_
                refine W.widen (k := 1) (n := 6) (by omega) (by omega) ?_
                exact W.iret (v := r_9) hx hb hr (fun t ht hW => ⟨⟨r_9, (), rfl, (plX2_sum_12 st lf ao sib wr tw cr tr bad p0 p1 p2 p3 c_3 c_9 c_23 c_40 c_46 c_56 c_72 _ hw_10), by rw [ht]; exact hP9, hD9⟩, hS.F ht⟩) hS.2.2 dX2_sum_94
              · refine lv_aload hx hb dX2_sum_75 (lv_at hl 0 rfl) ?_
                refine lv_iload_n hx hb dX2_sum_77 rfl (lv_at hl 4 rfl) ?_
                refine lv_iload hx hb dX2_sum_78 (lv_at hl 5 rfl) ?_
                have hPc := hP.sub (ws' := [(ow, .inr (0, [.int lf, .ref oaw, .int wr.2])), (oaw, .inl (cIw, 600, .inl wr.1))]) [1, 2] rfl
                have hKc := hK.sub (tys' := [(cIw, .int)]) [0] rfl
                refine vp_callSi (va_Run.run (va_runV (As := [.int p2, .int p3]) (rest := []) ⟨hx, hb, hml, hown, hts⟩ (mX0_sumOf16 l dC dI cIw ow oaw lf wr p2 p3) (cwV 2 hts (gV wd420 wd421 wd422 wd28 wd423) rfl rfl rfl (by decide +kernel) ⟨Nat.le_of_ble_eq_true rfl, Nat.le_of_ble_eq_true rfl⟩) ⟨fb_ro, va_recv hKc hPc (ci := 0) (q0 := 0) rfl rfl, pre_ro hPc hKc hZ⟩ rfl rfl hl.1 rfl (lv_room (Nat.le_of_ble_eq_true rfl)) dX2_sum_80 ⟨Nat.le_of_ble_eq_true rfl, Nat.le_of_ble_eq_true rfl⟩)) (fun r_11 hw_12 => ?_)
                refine lv_goto (tgt := 94) hx hb dX2_sum_83 (by decide) ?_
                have hP9 := hP.sub (ws' := [(ox, .inr (2, [.int st, .int lf, .int ao, .ref ow, .ref og, .ref oc, .ref od, .int bad])), (ow, .inr (0, [.int lf, .ref oaw, .int wr.2])), (oaw, .inl (cIw, 600, .inl wr.1)), (og, .inr (1, [.ref ow, .int st, .int sib, .int tw.1, .int tw.2.1, .int tw.2.2.1, .int tw.2.2.2])), (oc, .inr (0, [.int lf, .ref oac, .int cr.2])), (oac, .inl (cIc, 600, .inl cr.1)), (od, .inr (1, [.ref oc, .int st, .int sib, .int tr.1, .int tr.2.1, .int tr.2.2.1, .int tr.2.2.2]))]) [0, 1, 2, 3, 4, 5, 6] rfl
                have hD9 := hD.sub (ws' := [(ox, .inr (2, [.int st, .int lf, .int ao, .ref ow, .ref og, .ref oc, .ref od, .int bad])), (ow, .inr (0, [.int lf, .ref oaw, .int wr.2])), (oaw, .inl (cIw, 600, .inl wr.1)), (og, .inr (1, [.ref ow, .int st, .int sib, .int tw.1, .int tw.2.1, .int tw.2.2.1, .int tw.2.2.2])), (oc, .inr (0, [.int lf, .ref oac, .int cr.2])), (oac, .inl (cIc, 600, .inl cr.1)), (od, .inr (1, [.ref oc, .int st, .int sib, .int tr.1, .int tr.2.1, .int tr.2.2.1, .int tr.2.2.2]))]) [0, 1, 2, 3, 4, 5, 6] (by decide) rfl
                refine vx_ret ?_
                refine W.widen (k := 1) (n := 6) (by omega) (by omega) ?_
                exact W.iret (v := r_11) hx hb hr (fun t ht hW => ⟨⟨r_11, (), rfl, (plX2_sum_13 st lf ao sib wr tw cr tr bad p0 p1 p2 p3 c_3 c_9 c_23 c_40 c_46 c_56 c_72 _ hw_12), by rw [ht]; exact hP9, hD9⟩, hS.F ht⟩) hS.2.2 dX2_sum_94
            · obtain ⟨sa, hstr⟩ := hZ.2 (168, "not all of these bytes are there") (by decide)
              exact vx_throwS (own := RX2) (cls := "java/lang/IndexOutOfBoundsException") (names := ["java/lang/RuntimeException", "java/lang/Exception"]) hx hb hlt hown (by decide +kernel) (by decide +kernel) (hts _ wd346) (hts _ wd37) hstr (fun w h => (xat_103 w h).elim (hts w) (fun q => hZ.use q.1 q.2)) xgood_103 hQ.1 hQ.2 hS (hl.1.trans hml.symm) dX2_sum_59 dX2_sum_62 dX2_sum_63 dX2_sum_65 dX2_sum_68 (fun x h => (hE x h).elim) (Nat.le_of_ble_eq_true rfl) (Nat.le_of_ble_eq_true rfl) (Nat.le_of_ble_eq_true rfl) (Nat.le_of_ble_eq_true rfl) hlocks (fun t hvm hz hk => ⟨(), trivial, ⟨(plX2_sum_14 st lf ao sib wr tw cr tr bad p0 p1 p2 p3 c_3 c_9 c_23 c_40 c_46 c_56), (x_at hS hP hz hk).1, hD⟩, (x_at hS hP hz hk).2⟩) hS.2.2 (by omega) (by omega)
      · refine lv_aload_n hx hb dX2_sum_26 rfl (lv_at hl 0 rfl) ?_
        refine va_get (D := (dC, dI)) (ci := 2) (v := .ref oc) (C := RX2) (T := TX2) (N := 8) hx hb hts inGX2 hown hK hP 0 rfl rfl 5 (by decide) (hts _ wd103) (fun _ h9 => h9) rfl dX2_sum_27 ?_
        refine lv_goto (tgt := 37) hx hb dX2_sum_30 (by decide) ?_
        refine lv_astore (lv' := [(5, .ref oc), (0, .ref ox), (1, .int p0), (2, .int p1), (3, .int p2), (4, .int p3)]) hx hb dX2_sum_37 hl (by decide) rfl (fun ls hl => ?_)
        refine lv_iload_n hx hb dX2_sum_39 rfl (lv_at hl 4 rfl) ?_
        refine lv_if_lt (tgt := 59) hx hb dX2_sum_40 (by decide) (fun c_40 => ?_) (fun c_40 => ?_)
        · obtain ⟨sa, hstr⟩ := hZ.2 (168, "not all of these bytes are there") (by decide)
          exact vx_throwS (own := RX2) (cls := "java/lang/IndexOutOfBoundsException") (names := ["java/lang/RuntimeException", "java/lang/Exception"]) hx hb hlt hown (by decide +kernel) (by decide +kernel) (hts _ wd346) (hts _ wd37) hstr (fun w h => (xat_103 w h).elim (hts w) (fun q => hZ.use q.1 q.2)) xgood_103 hQ.1 hQ.2 hS (hl.1.trans hml.symm) dX2_sum_59 dX2_sum_62 dX2_sum_63 dX2_sum_65 dX2_sum_68 (fun x h => (hE x h).elim) (Nat.le_of_ble_eq_true rfl) (Nat.le_of_ble_eq_true rfl) (Nat.le_of_ble_eq_true rfl) (Nat.le_of_ble_eq_true rfl) hlocks (fun t hvm hz hk => ⟨(), trivial, ⟨(plX2_sum_15 st lf ao sib wr tw cr tr bad p0 p1 p2 p3 c_3 c_9 c_23 c_40), (x_at hS hP hz hk).1, hD⟩, (x_at hS hP hz hk).2⟩) hS.2.2 (by omega) (by omega)
        · refine lv_iload hx hb dX2_sum_43 (lv_at hl 5 rfl) ?_
          refine lv_iload_n hx hb dX2_sum_45 rfl (lv_at hl 4 rfl) ?_
          refine lv_icmp_lt (tgt := 59) hx hb dX2_sum_46 (by decide) (fun c_46 => ?_) (fun c_46 => ?_)
          · obtain ⟨sa, hstr⟩ := hZ.2 (168, "not all of these bytes are there") (by decide)
            exact vx_throwS (own := RX2) (cls := "java/lang/IndexOutOfBoundsException") (names := ["java/lang/RuntimeException", "java/lang/Exception"]) hx hb hlt hown (by decide +kernel) (by decide +kernel) (hts _ wd346) (hts _ wd37) hstr (fun w h => (xat_103 w h).elim (hts w) (fun q => hZ.use q.1 q.2)) xgood_103 hQ.1 hQ.2 hS (hl.1.trans hml.symm) dX2_sum_59 dX2_sum_62 dX2_sum_63 dX2_sum_65 dX2_sum_68 (fun x h => (hE x h).elim) (Nat.le_of_ble_eq_true rfl) (Nat.le_of_ble_eq_true rfl) (Nat.le_of_ble_eq_true rfl) (Nat.le_of_ble_eq_true rfl) hlocks (fun t hvm hz hk => ⟨(), trivial, ⟨(plX2_sum_16 st lf ao sib wr tw cr tr bad p0 p1 p2 p3 c_3 c_9 c_23 c_40 c_46), (x_at hS hP hz hk).1, hD⟩, (x_at hS hP hz hk).2⟩) hS.2.2 (by omega) (by omega)
          · refine lv_iload hx hb dX2_sum_49 (lv_at hl 5 rfl) ?_
            refine lv_aload hx hb dX2_sum_51 (lv_at hl 0 rfl) ?_
            refine va_getN (D := (dC, dI)) (ci := 0) (v := .int cr.2) (C := RX0) (T := TX0) (N := 3) hx hb hts inGX0 hown hK hP 4 rfl rfl 2 (by decide) (hZ.use zw1 rfl) (fun _ h9 => h9) rfl dX2_sum_53 ?_
            refine lv_icmp_le (tgt := 69) hx hb dX2_sum_56 (by decide) (fun c_56 => ?_) (fun c_56 => ?_)
            · refine lv_iload_n hx hb dX2_sum_69 rfl (lv_at hl 3 rfl) ?_
              refine lv_bipush (v := 16) hx hb dX2_sum_70 (by decide) ?_
              refine lv_icmp_ne (tgt := 86) hx hb dX2_sum_72 (by decide) (fun c_72 => ?_) (fun c_72 => ?_)
              · refine lv_aload hx hb dX2_sum_86 (lv_at hl 0 rfl) ?_
                refine lv_iload_n hx hb dX2_sum_88 rfl (lv_at hl 4 rfl) ?_
                refine lv_iload hx hb dX2_sum_89 (lv_at hl 5 rfl) ?_
                have hPc := hP.sub (ws' := [(oc, .inr (0, [.int lf, .ref oac, .int cr.2])), (oac, .inl (cIc, 600, .inl cr.1))]) [4, 5] rfl
                have hKc := hK.sub (tys' := [(cIc, .int)]) [1] rfl
                refine vp_callSi (va_Run.run (va_runV (As := [.int p2, .int p3]) (rest := []) ⟨hx, hb, hml, hown, hts⟩ (mX0_sumOf32 l dC dI cIc oc oac lf cr p2 p3) (cwV 2 hts (gV wd426 wd427 wd428 wd28 wd429) rfl rfl rfl (by decide +kernel) ⟨Nat.le_of_ble_eq_true rfl, Nat.le_of_ble_eq_true rfl⟩) ⟨fb_ro, va_recv hKc hPc (ci := 0) (q0 := 0) rfl rfl, pre_ro hPc hKc hZ⟩ rfl rfl hl.1 rfl (lv_room (Nat.le_of_ble_eq_true rfl)) dX2_sum_91 ⟨Nat.le_of_ble_eq_true rfl, Nat.le_of_ble_eq_true rfl⟩)) (fun r_13 hw_14 => ?_)
                have hP9 := hP.sub (ws' := [(ox, .inr (2, [.int st, .int lf, .int ao, .ref ow, .ref og, .ref oc, .ref od, .int bad])), (ow, .inr (0, [.int lf, .ref oaw, .int wr.2])), (oaw, .inl (cIw, 600, .inl wr.1)), (og, .inr (1, [.ref ow, .int st, .int sib, .int tw.1, .int tw.2.1, .int tw.2.2.1, .int tw.2.2.2])), (oc, .inr (0, [.int lf, .ref oac, .int cr.2])), (oac, .inl (cIc, 600, .inl cr.1)), (od, .inr (1, [.ref oc, .int st, .int sib, .int tr.1, .int tr.2.1, .int tr.2.2.1, .int tr.2.2.2]))]) [0, 1, 2, 3, 4, 5, 6] rfl
                have hD9 := hD.sub (ws' := [(ox, .inr (2, [.int st, .int lf, .int ao, .ref ow, .ref og, .ref oc, .ref od, .int bad])), (ow, .inr (0, [.int lf, .ref oaw, .int wr.2])), (oaw, .inl (cIw, 600, .inl wr.1)), (og, .inr (1, [.ref ow, .int st, .int sib, .int tw.1, .int tw.2.1, .int tw.2.2.1, .int tw.2.2.2])), (oc, .inr (0, [.int lf, .ref oac, .int cr.2])), (oac, .inl (cIc, 600, .inl cr.1)), (od, .inr (1, [.ref oc, .int st, .int sib, .int tr.1, .int tr.2.1, .int tr.2.2.1, .int tr.2.2.2]))]) [0, 1, 2, 3, 4, 5, 6] (by decide) rfl
                refine vx_ret ?_
                refine W.widen (k := 1) (n := 6) (by omega) (by omega) ?_
                exact W.iret (v := r_13) hx hb hr (fun t ht hW => ⟨⟨r_13, (), rfl, (plX2_sum_17 st lf ao sib wr tw cr tr bad p0 p1 p2 p3 c_3 c_9 c_23 c_40 c_46 c_56 c_72 _ hw_14), by rw [ht]; exact hP9, hD9⟩, hS.F ht⟩) hS.2.2 dX2_sum_94
              · refine lv_aload hx hb dX2_sum_75 (lv_at hl 0 rfl) ?_
                refine lv_iload_n hx hb dX2_sum_77 rfl (lv_at hl 4 rfl) ?_
                refine lv_iload hx hb dX2_sum_78 (lv_at hl 5 rfl) ?_
                have hPc := hP.sub (ws' := [(oc, .inr (0, [.int lf, .ref oac, .int cr.2])), (oac, .inl (cIc, 600, .inl cr.1))]) [4, 5] rfl
                have hKc := hK.sub (tys' := [(cIc, .int)]) [1] rfl
                refine vp_callSi (va_Run.run (va_runV (As := [.int p2, .int p3]) (rest := []) ⟨hx, hb, hml, hown, hts⟩ (mX0_sumOf16 l dC dI cIc oc oac lf cr p2 p3) (cwV 2 hts (gV wd420 wd421 wd422 wd28 wd423) rfl rfl rfl (by decide +kernel) ⟨Nat.le_of_ble_eq_true rfl, Nat.le_of_ble_eq_true rfl⟩) ⟨fb_ro, va_recv hKc hPc (ci := 0) (q0 := 0) rfl rfl, pre_ro hPc hKc hZ⟩ rfl rfl hl.1 rfl (lv_room (Nat.le_of_ble_eq_true rfl)) dX2_sum_80 ⟨Nat.le_of_ble_eq_true rfl, Nat.le_of_ble_eq_true rfl⟩)) (fun r_15 hw_16 => ?_)
                refine lv_goto (tgt := 94) hx hb dX2_sum_83 (by decide) ?_
                have hP9 := hP.sub (ws' := [(ox, .inr (2, [.int st, .int lf, .int ao, .ref ow, .ref og, .ref oc, .ref od, .int bad])), (ow, .inr (0, [.int lf, .ref oaw, .int wr.2])), (oaw, .inl (cIw, 600, .inl wr.1)), (og, .inr (1, [.ref ow, .int st, .int sib, .int tw.1, .int tw.2.1, .int tw.2.2.1, .int tw.2.2.2])), (oc, .inr (0, [.int lf, .ref oac, .int cr.2])), (oac, .inl (cIc, 600, .inl cr.1)), (od, .inr (1, [.ref oc, .int st, .int sib, .int tr.1, .int tr.2.1, .int tr.2.2.1, .int tr.2.2.2]))]) [0, 1, 2, 3, 4, 5, 6] rfl
                have hD9 := hD.sub (ws' := [(ox, .inr (2, [.int st, .int lf, .int ao, .ref ow, .ref og, .ref oc, .ref od, .int bad])), (ow, .inr (0, [.int lf, .ref oaw, .int wr.2])), (oaw, .inl (cIw, 600, .inl wr.1)), (og, .inr (1, [.ref ow, .int st, .int sib, .int tw.1, .int tw.2.1, .int tw.2.2.1, .int tw.2.2.2])), (oc, .inr (0, [.int lf, .ref oac, .int cr.2])), (oac, .inl (cIc, 600, .inl cr.1)), (od, .inr (1, [.ref oc, .int st, .int sib, .int tr.1, .int tr.2.1, .int tr.2.2.1, .int tr.2.2.2]))]) [0, 1, 2, 3, 4, 5, 6] (by decide) rfl
                refine vx_ret ?_
                refine W.widen (k := 1) (n := 6) (by omega) (by omega) ?_
                exact W.iret (v := r_15) hx hb hr (fun t ht hW => ⟨⟨r_15, (), rfl, (plX2_sum_18 st lf ao sib wr tw cr tr bad p0 p1 p2 p3 c_3 c_9 c_23 c_40 c_46 c_56 c_72 _ hw_16), by rw [ht]; exact hP9, hD9⟩, hS.F ht⟩) hS.2.2 dX2_sum_94
            · obtain ⟨sa, hstr⟩ := hZ.2 (168, "not all of these bytes are there") (by decide)
              exact vx_throwS (own := RX2) (cls := "java/lang/IndexOutOfBoundsException") (names := ["java/lang/RuntimeException", "java/lang/Exception"]) hx hb hlt hown (by decide +kernel) (by decide +kernel) (hts _ wd346) (hts _ wd37) hstr (fun w h => (xat_103 w h).elim (hts w) (fun q => hZ.use q.1 q.2)) xgood_103 hQ.1 hQ.2 hS (hl.1.trans hml.symm) dX2_sum_59 dX2_sum_62 dX2_sum_63 dX2_sum_65 dX2_sum_68 (fun x h => (hE x h).elim) (Nat.le_of_ble_eq_true rfl) (Nat.le_of_ble_eq_true rfl) (Nat.le_of_ble_eq_true rfl) (Nat.le_of_ble_eq_true rfl) hlocks (fun t hvm hz hk => ⟨(), trivial, ⟨(plX2_sum_19 st lf ao sib wr tw cr tr bad p0 p1 p2 p3 c_3 c_9 c_23 c_40 c_46 c_56), (x_at hS hP hz hk).1, hD⟩, (x_at hS hP hz hk).2⟩) hS.2.2 (by omega) (by omega)
    · obtain ⟨sa, hstr⟩ := hZ.2 (166, "a sum has 16 or 32 bits") (by decide)
      exact vx_throwS (own := RX2) (cls := "java/lang/IllegalArgumentException") (names := ["java/lang/RuntimeException", "java/lang/Exception"]) hx hb hlt hown (by decide +kernel) (by decide +kernel) (hts _ wd214) (hts _ wd34) hstr (fun w h => (xat_90 w h).elim (hts w) (fun q => hZ.use q.1 q.2)) xgood_90 hQ.1 hQ.2 hS (hl.1.trans hml.symm) dX2_sum_12 dX2_sum_15 dX2_sum_16 dX2_sum_18 dX2_sum_21 (fun x h => (hE x h).elim) (Nat.le_of_ble_eq_true rfl) (Nat.le_of_ble_eq_true rfl) (Nat.le_of_ble_eq_true rfl) (Nat.le_of_ble_eq_true rfl) hlocks (fun t hvm hz hk => ⟨(), trivial, ⟨(plX2_sum_20 st lf ao sib wr tw cr tr bad p0 p1 p2 p3 c_3 c_9), (x_at hS hP hz hk).1, hD⟩, (x_at hS hP hz hk).2⟩) hS.2.2 (by omega) (by omega)
