/-- room for so many bits more -/
def wokI (bm : Bm) (d : Int) : Prop := 0 ≤ bm.2.1.toInt ∧ bm.2.1.toInt + d ≤ 5200
def wok (bm : Bm) (d : Nat) : Prop := wokI bm d
theorem wok_mono {bm : Bm} {a b : Nat} (h : wok bm a) (hb : b ≤ a) : wok bm b := ⟨h.1, by have := h.2; omega⟩
theorem wok_in {bm : Bm} (h : wok bm 1) : vp_in bm.2.1 5200 := inI h.1 (by have := h.2; omega)
theorem w_1 {bm : Bm} {w' : Int32} (hW : wok bm 1) (e : w' = bm.2.1 + 1) : w'.toInt = bm.2.1.toInt + 1 := by
  have h1 := hW.1; have h2 := hW.2
  rw [e]; exact addI (by rw [j1]) (by omega) (by omega)
theorem bo_add {bm : Bm} {w' : Int32} (hW : wok bm 1) (e : w' = bm.2.1 + 1) (c : w' - w' / 8 * 8 = 0) : bOk w' (w' / 8 - 1) := by
  have e1 := w_1 hW e
  have h1 := hW.1; have h2 := hW.2
  have e2 := rem8 (x := w') (by omega)
  rw [c, i0] at e2
  have e3 := div8 (x := w') (by omega)
  have e4 : (w' / 8 - 1).toInt = w'.toInt / 8 - 1 := subI (by rw [e3, j1]) (by omega) (by omega)
  exact ⟨by omega, by omega, by omega⟩
def FX3_add (st : Int32) (lo : Int32) (th : Int32) (bm : Bm) (km : Rw) (qm : Tk) (bd : Int32) (ym : Tk) (p0 : Int32) : Bm :=
  let f_1 := bm.2.1 + 1
  if (f_1 - f_1 / 8 * 8) = 0 then
    let r_2 := FX3_byteOf st lo th (upd bm.1 bm.2.1.toNatClampNeg (vp_nar .boolean p0), f_1, bm.2.2.1, bm.2.2.2.1, bm.2.2.2.2) km qm bd ym ((f_1 / 8) - 1)
    if r_2 = 255 then
      (upd bm.1 bm.2.1.toNatClampNeg (vp_nar .boolean p0), f_1, bm.2.2.1, bm.2.2.2.1, 1)
    else
      (upd bm.1 bm.2.1.toNatClampNeg (vp_nar .boolean p0), f_1, bm.2.2.1, bm.2.2.2.1, 0)
  else
    (upd bm.1 bm.2.1.toNatClampNeg (vp_nar .boolean p0), f_1, bm.2.2.1, bm.2.2.2.1, bm.2.2.2.2)
set_option maxRecDepth 100000 in
theorem plX3_add_0 (st : Int32) (lo : Int32) (th : Int32) (bm : Bm) (km : Rw) (qm : Tk) (bd : Int32) (ym : Tk) (p0 : Int32) (f_1 : Int32) (ef_1 : f_1 = bm.2.1 + 1) (c_27 : ¬ ((f_1 - f_1 / 8 * 8) = 0)) : (upd bm.1 bm.2.1.toNatClampNeg (vp_nar .boolean p0), f_1, bm.2.2.1, bm.2.2.2.1, bm.2.2.2.2) = FX3_add st lo th bm km qm bd ym p0 := by
  subst ef_1
  exact (if_neg c_27).symm
set_option maxRecDepth 100000 in
theorem plX3_add_1 (st : Int32) (lo : Int32) (th : Int32) (bm : Bm) (km : Rw) (qm : Tk) (bd : Int32) (ym : Tk) (p0 : Int32) (f_1 : Int32) (ef_1 : f_1 = bm.2.1 + 1) (c_27 : (f_1 - f_1 / 8 * 8) = 0) (r_2 : Int32) (hw_3 : r_2 = FX3_byteOf st lo th (upd bm.1 bm.2.1.toNatClampNeg (vp_nar .boolean p0), f_1, bm.2.2.1, bm.2.2.2.1, bm.2.2.2.2) km qm bd ym ((f_1 / 8) - 1)) (c_47 : ¬ (r_2 = 255)) : (upd bm.1 bm.2.1.toNatClampNeg (vp_nar .boolean p0), f_1, bm.2.2.1, bm.2.2.2.1, 0) = FX3_add st lo th bm km qm bd ym p0 := by
  subst ef_1
  subst hw_3
  exact ((if_pos c_27).trans (if_neg c_47)).symm
set_option maxRecDepth 100000 in
theorem plX3_add_2 (st : Int32) (lo : Int32) (th : Int32) (bm : Bm) (km : Rw) (qm : Tk) (bd : Int32) (ym : Tk) (p0 : Int32) (f_1 : Int32) (ef_1 : f_1 = bm.2.1 + 1) (c_27 : (f_1 - f_1 / 8 * 8) = 0) (r_2 : Int32) (hw_3 : r_2 = FX3_byteOf st lo th (upd bm.1 bm.2.1.toNatClampNeg (vp_nar .boolean p0), f_1, bm.2.2.1, bm.2.2.2.1, bm.2.2.2.2) km qm bd ym ((f_1 / 8) - 1)) (c_47 : r_2 = 255) : (upd bm.1 bm.2.1.toNatClampNeg (vp_nar .boolean p0), f_1, bm.2.2.1, bm.2.2.2.1, 1) = FX3_add st lo th bm km qm bd ym p0 := by
  subst ef_1
  subst hw_3
  exact ((if_pos c_27).trans (if_pos c_47)).symm
set_option maxHeartbeats 4000000 in
set_option maxRecDepth 100000 in
theorem mX3_add (l : Launch) (dC : Nat → ClassId) (dI : Nat → Nat → Nat) (cZ cK : ClassId) (om ob ok : Nat) (sz : Nat) (st : Int32) (lo : Int32) (th : Int32) (bm : Bm) (km : Rw) (qm : Tk) (bd : Int32) (ym : Tk) (p0 : Int32) (hW : wok bm 1) : Met l yX3_add (Cond.code yX3_add cX3_add 2 none :: G) ({ frames := 1, cells := 0, slots := 0, locals := 25 } : Room) (va_Pc [.ref om, .int p0] (fun U => U.heap.size = sz ∧ va_P (dC, dI) vwCl [(om, .inr (3, [.int th, .int st, .int lo, .ref ob, .int bm.2.1, .int bm.2.2.1, .int bm.2.2.2.1, .int bm.2.2.2.2, .ref ok, .int km.2, .int qm.1, .int qm.2.1, .int qm.2.2.1, .int qm.2.2.2, .int bd, .int ym.1, .int ym.2.1, .int ym.2.2.1, .int ym.2.2.2])), (ob, .inl (cZ, 5200, .inl bm.1)), (ok, .inl (cK, 600, .inl km.1))] U.heap ∧ va_K (dC, dI) vwCl [(cZ, .boolean), (cK, .int)] U ∧ va_D (fun _ => True) [(om, .inr (3, [.int th, .int st, .int lo, .ref ob, .int bm.2.1, .int bm.2.2.1, .int bm.2.2.2.1, .int bm.2.2.2.2, .ref ok, .int km.2, .int qm.1, .int qm.2.1, .int qm.2.2.1, .int qm.2.2.2, .int bd, .int ym.1, .int ym.2.1, .int ym.2.2.1, .int ym.2.2.2])), (ob, .inl (cZ, 5200, .inl bm.1)), (ok, .inl (cK, 600, .inl km.1))] ∧ zOk U)) (va_Qv (fun (u : Bm) => u = (FX3_add st lo th bm km qm bd ym p0)) (fun (u : Bm) (t : State) => va_P (dC, dI) vwCl [(om, .inr (3, [.int th, .int st, .int lo, .ref ob, .int u.2.1, .int u.2.2.1, .int u.2.2.2.1, .int u.2.2.2.2, .ref ok, .int km.2, .int qm.1, .int qm.2.1, .int qm.2.2.1, .int qm.2.2.2, .int bd, .int ym.1, .int ym.2.1, .int ym.2.2.1, .int ym.2.2.2])), (ob, .inl (cZ, 5200, .inl u.1)), (ok, .inl (cK, 600, .inl km.1))] t.heap ∧ va_D (va_A [(om, .inr (3, [.int th, .int st, .int lo, .ref ob, .int bm.2.1, .int bm.2.2.1, .int bm.2.2.2.1, .int bm.2.2.2.2, .ref ok, .int km.2, .int qm.1, .int qm.2.1, .int qm.2.2.1, .int qm.2.2.2, .int bd, .int ym.1, .int ym.2.1, .int ym.2.2.1, .int ym.2.2.2])), (ob, .inl (cZ, 5200, .inl bm.1)), (ok, .inl (cK, 600, .inl km.1))] sz) [(om, .inr (3, [.int th, .int st, .int lo, .ref ob, .int u.2.1, .int u.2.2.1, .int u.2.2.2.1, .int u.2.2.2.2, .ref ok, .int km.2, .int qm.1, .int qm.2.1, .int qm.2.2.1, .int qm.2.2.2, .int bd, .int ym.1, .int ym.2.1, .int ym.2.2.1, .int ym.2.2.2])), (ob, .inl (cZ, 5200, .inl u.1)), (ok, .inl (cK, 600, .inl km.1))]) (va_A [(om, .inr (3, [.int th, .int st, .int lo, .ref ob, .int bm.2.1, .int bm.2.2.1, .int bm.2.2.2.1, .int bm.2.2.2.2, .ref ok, .int km.2, .int qm.1, .int qm.2.1, .int qm.2.2.1, .int qm.2.2.2, .int bd, .int ym.1, .int ym.2.1, .int ym.2.2.1, .int ym.2.2.2])), (ob, .inl (cZ, 5200, .inl bm.1)), (ok, .inl (cK, 600, .inl km.1))] sz)) 0 0 (va_A [(om, .inr (3, [.int th, .int st, .int lo, .ref ob, .int bm.2.1, .int bm.2.2.1, .int bm.2.2.2.1, .int bm.2.2.2.2, .ref ok, .int km.2, .int qm.1, .int qm.2.1, .int qm.2.2.1, .int qm.2.2.2, .int bd, .int ym.1, .int ym.2.1, .int ym.2.2.1, .int ym.2.2.2])), (ob, .inl (cZ, 5200, .inl bm.1)), (ok, .inl (cK, 600, .inl km.1))] sz) := by
  refine Met.ofW (cc := cX3_add) (maxL := 2) (ret := none) (by decide) rfl ?_
  intro p e s m args below meth c s₁ B hml hv
  obtain ⟨rfl, hsz, hP, hK, hD0, hZ⟩ := hv
  have hx := B.exec
  have hb := B.bytes
  have hr := B.returns
  have hts : ∀ w ∈ G, w.before [.ref om, .int p0].toArray s = true := fun w h => atoms_spec (ws := (Cond.code yX3_add cX3_add 2 none :: G)) B.pre w (List.mem_cons_of_mem _ h)
  have hown : s.vm.findClass RX3 = some m.cls := findClass_of_methodNamed B.named
  have hlocks := B.notSynchronized
  subst hsz
  have hD := hD0.self (sz := s.heap.size)
  generalize hAe : va_A [(om, .inr (3, [.int th, .int st, .int lo, .ref ob, .int bm.2.1, .int bm.2.2.1, .int bm.2.2.2.1, .int bm.2.2.2.2, .ref ok, .int km.2, .int qm.1, .int qm.2.1, .int qm.2.2.1, .int qm.2.2.2, .int bd, .int ym.1, .int ym.2.1, .int ym.2.2.1, .int ym.2.2.2])), (ob, .inl (cZ, 5200, .inl bm.1)), (ok, .inl (cK, 600, .inl km.1))] s.heap.size = A at hD ⊢
  have hA : ∀ q : Nat, s.heap.size ≤ q → A q := fun q h => by rw [← hAe]; exact Or.inr h
  have hS : va_S A s.heap s.heap [] := va_S.rf
  have hP : va_P (dC, dI) vwCl [(om, .inr (3, [.int th, .int st, .int lo, .ref ob, .int bm.2.1, .int bm.2.2.1, .int bm.2.2.2.1, .int bm.2.2.2.2, .ref ok, .int km.2, .int qm.1, .int qm.2.1, .int qm.2.2.1, .int qm.2.2.2, .int bd, .int ym.1, .int ym.2.1, .int ym.2.2.1, .int ym.2.2.2])), (ob, .inl (cZ, 5200, .inl bm.1)), (ok, .inl (cK, 600, .inl km.1))] s.heap := hP
  have hl := lv_entry ([.ref om, .int p0]) (n := 2) (Nat.le_of_ble_eq_true rfl)
  rw [lg_entry_eq]
  generalize (lg_sl ([.ref om, .int p0]) ++ List.replicate (2 - (lg_sl ([.ref om, .int p0])).length) Slot.unset).toArray = ls at hl ⊢
  have hl : lv_has ls 2 [(0, .ref om), (1, .int p0)] := hl
  refine lv_aload_n hx hb dX3_add_0 rfl (lv_at hl 0 rfl) ?_
  refine va_get (D := (dC, dI)) (ci := 3) (v := .ref ob) (C := RX3) (T := TX3) (N := 19) hx hb hts inGX3 hown hK hP 0 rfl rfl 3 (by decide) (hts _ wd440) (fun _ h9 => h9) rfl dX3_add_1 ?_
  refine lv_aload_n hx hb dX3_add_4 rfl (lv_at hl 0 rfl) ?_
  refine va_get (D := (dC, dI)) (ci := 3) (v := .int bm.2.1) (C := RX3) (T := TX3) (N := 19) hx hb hts inGX3 hown hK hP 0 rfl rfl 4 (by decide) (hts _ wd441) (fun _ h9 => h9) rfl dX3_add_5 ?_
  refine lv_iload_n hx hb dX3_add_8 rfl (lv_at hl 1 rfl) ?_
  refine va_zast hx hb hK hP hD hS 1 0 rfl rfl (wok_in hW) dX3_add_9 (fun H locs hP hD hS => ?_)
  have hP : va_P (dC, dI) vwCl [(om, .inr (3, [.int th, .int st, .int lo, .ref ob, .int bm.2.1, .int bm.2.2.1, .int bm.2.2.2.1, .int bm.2.2.2.2, .ref ok, .int km.2, .int qm.1, .int qm.2.1, .int qm.2.2.1, .int qm.2.2.2, .int bd, .int ym.1, .int ym.2.1, .int ym.2.2.1, .int ym.2.2.2])), (ob, .inl (cZ, 5200, .inl (upd bm.1 bm.2.1.toNatClampNeg (vp_nar .boolean p0)))), (ok, .inl (cK, 600, .inl km.1))] H := hP
  have hD : va_D A [(om, .inr (3, [.int th, .int st, .int lo, .ref ob, .int bm.2.1, .int bm.2.2.1, .int bm.2.2.2.1, .int bm.2.2.2.2, .ref ok, .int km.2, .int qm.1, .int qm.2.1, .int qm.2.2.1, .int qm.2.2.2, .int bd, .int ym.1, .int ym.2.1, .int ym.2.2.1, .int ym.2.2.2])), (ob, .inl (cZ, 5200, .inl (upd bm.1 bm.2.1.toNatClampNeg (vp_nar .boolean p0)))), (ok, .inl (cK, 600, .inl km.1))] := hD
  refine lv_aload_n hx hb dX3_add_10 rfl (lv_at hl 0 rfl) ?_
  refine lv_dup hx hb dX3_add_11 rfl ?_
  refine va_get (D := (dC, dI)) (ci := 3) (v := .int bm.2.1) (C := RX3) (T := TX3) (N := 19) hx hb hts inGX3 hown hK hP 0 rfl rfl 4 (by decide) (hts _ wd441) (fun _ h9 => h9) rfl dX3_add_12 ?_
  refine lv_iconst (v := 1) hx hb dX3_add_15 (by decide) ?_
  refine lv_iadd hx hb dX3_add_16 ?_
  refine lv_topi (fun f_1 ef_1 => ?_)
  refine va_put (D := (dC, dI)) (ci := 3) (v := .int f_1) (ty := .int) (C := RX3) (T := TX3) (N := 19) hx hb hts inGX3 tyX3 tyX3_ok nmX3 hown hK hP hD hS 0 rfl rfl 4 (by decide) (hts _ wd441) (fun _ h9 => h9) rfl (by decide +kernel) rfl rfl (Nat.le_of_ble_eq_true rfl) dX3_add_17 (fun H locs hP hD hS => ?_)
  have hP : va_P (dC, dI) vwCl [(om, .inr (3, [.int th, .int st, .int lo, .ref ob, .int f_1, .int bm.2.2.1, .int bm.2.2.2.1, .int bm.2.2.2.2, .ref ok, .int km.2, .int qm.1, .int qm.2.1, .int qm.2.2.1, .int qm.2.2.2, .int bd, .int ym.1, .int ym.2.1, .int ym.2.2.1, .int ym.2.2.2])), (ob, .inl (cZ, 5200, .inl (upd bm.1 bm.2.1.toNatClampNeg (vp_nar .boolean p0)))), (ok, .inl (cK, 600, .inl km.1))] H := hP
  have hD : va_D A [(om, .inr (3, [.int th, .int st, .int lo, .ref ob, .int f_1, .int bm.2.2.1, .int bm.2.2.2.1, .int bm.2.2.2.2, .ref ok, .int km.2, .int qm.1, .int qm.2.1, .int qm.2.2.1, .int qm.2.2.2, .int bd, .int ym.1, .int ym.2.1, .int ym.2.2.1, .int ym.2.2.2])), (ob, .inl (cZ, 5200, .inl (upd bm.1 bm.2.1.toNatClampNeg (vp_nar .boolean p0)))), (ok, .inl (cK, 600, .inl km.1))] := hD
  refine lv_aload_n hx hb dX3_add_20 rfl (lv_at hl 0 rfl) ?_
  refine va_get (D := (dC, dI)) (ci := 3) (v := .int f_1) (C := RX3) (T := TX3) (N := 19) hx hb hts inGX3 hown hK hP 0 rfl rfl 4 (by decide) (hts _ wd441) (fun _ h9 => h9) rfl dX3_add_21 ?_
  refine lv_bipush (v := 8) hx hb dX3_add_24 (by decide) ?_
  refine lv_irem hx hb dX3_add_26 (by decide) ?_
  refine lv_if_ne (tgt := 58) hx hb dX3_add_27 (by decide) (fun c_27 => ?_) (fun c_27 => ?_)
  · have hP9 := hP.sub (ws' := [(om, .inr (3, [.int th, .int st, .int lo, .ref ob, .int f_1, .int bm.2.2.1, .int bm.2.2.2.1, .int bm.2.2.2.2, .ref ok, .int km.2, .int qm.1, .int qm.2.1, .int qm.2.2.1, .int qm.2.2.2, .int bd, .int ym.1, .int ym.2.1, .int ym.2.2.1, .int ym.2.2.2])), (ob, .inl (cZ, 5200, .inl (upd bm.1 bm.2.1.toNatClampNeg (vp_nar .boolean p0)))), (ok, .inl (cK, 600, .inl km.1))]) [0, 1, 2] rfl
    have hD9 := hD.sub (ws' := [(om, .inr (3, [.int th, .int st, .int lo, .ref ob, .int f_1, .int bm.2.2.1, .int bm.2.2.2.1, .int bm.2.2.2.2, .ref ok, .int km.2, .int qm.1, .int qm.2.1, .int qm.2.2.1, .int qm.2.2.2, .int bd, .int ym.1, .int ym.2.1, .int ym.2.2.1, .int ym.2.2.2])), (ob, .inl (cZ, 5200, .inl (upd bm.1 bm.2.1.toNatClampNeg (vp_nar .boolean p0)))), (ok, .inl (cK, 600, .inl km.1))]) [0, 1, 2] (by decide) rfl
    exact W.vret hx hb hr (fun t ht hW => ⟨⟨(upd bm.1 bm.2.1.toNatClampNeg (vp_nar .boolean p0), f_1, bm.2.2.1, bm.2.2.2.1, bm.2.2.2.2), rfl, (plX3_add_0 st lo th bm km qm bd ym p0 _ ef_1 c_27), by rw [ht]; exact hP9, hD9⟩, hS.F ht⟩) hS.2.2 dX3_add_58
  · refine lv_aload_n hx hb dX3_add_30 rfl (lv_at hl 0 rfl) ?_
    refine lv_aload_n hx hb dX3_add_31 rfl (lv_at hl 0 rfl) ?_
    refine lv_aload_n hx hb dX3_add_32 rfl (lv_at hl 0 rfl) ?_
    refine va_get (D := (dC, dI)) (ci := 3) (v := .int f_1) (C := RX3) (T := TX3) (N := 19) hx hb hts inGX3 hown hK hP 0 rfl rfl 4 (by decide) (hts _ wd441) (fun _ h9 => h9) rfl dX3_add_33 ?_
    refine lv_bipush (v := 8) hx hb dX3_add_36 (by decide) ?_
    refine lv_idiv hx hb dX3_add_38 (by decide) ?_
    refine lv_iconst (v := 1) hx hb dX3_add_39 (by decide) ?_
    refine lv_isub hx hb dX3_add_40 ?_
    have hPc := hP.sub (ws' := [(om, .inr (3, [.int th, .int st, .int lo, .ref ob, .int f_1, .int bm.2.2.1, .int bm.2.2.2.1, .int bm.2.2.2.2, .ref ok, .int km.2, .int qm.1, .int qm.2.1, .int qm.2.2.1, .int qm.2.2.2, .int bd, .int ym.1, .int ym.2.1, .int ym.2.2.1, .int ym.2.2.2])), (ob, .inl (cZ, 5200, .inl (upd bm.1 bm.2.1.toNatClampNeg (vp_nar .boolean p0)))), (ok, .inl (cK, 600, .inl km.1))]) [0, 1, 2] rfl
    have hKc := hK.sub (tys' := [(cZ, .boolean), (cK, .int)]) [0, 1] rfl
    refine vp_callSi (va_Run.run (va_runV (As := [.int ((f_1 / 8) - 1)]) (rest := [.ref om]) ⟨hx, hb, hml, hown, hts⟩ (mX3_byteOf l dC dI cZ cK om ob ok st lo th (upd bm.1 bm.2.1.toNatClampNeg (vp_nar .boolean p0), f_1, bm.2.2.1, bm.2.2.2.1, bm.2.2.2.2) km qm bd ym ((f_1 / 8) - 1) (bo_add hW (by assumption) c_27)) (cwV 1 hts (gV wd520 wd521 wd15 wd30 wd522) rfl rfl rfl (by decide +kernel) ⟨Nat.le_of_ble_eq_true rfl, Nat.le_of_ble_eq_true rfl⟩) ⟨fb_ro, va_recv hKc hPc (ci := 3) (q0 := 0) rfl rfl, pre_ro hPc hKc hZ⟩ rfl rfl hl.1 rfl (lv_room (Nat.le_of_ble_eq_true rfl)) dX3_add_41 ⟨Nat.le_of_ble_eq_true rfl, Nat.le_of_ble_eq_true rfl⟩)) (fun r_2 hw_3 => ?_)
    refine lv_sipush (v := 255) hx hb dX3_add_44 (by decide) ?_
    refine lv_icmp_ne (tgt := 54) hx hb dX3_add_47 (by decide) (fun c_47 => ?_) (fun c_47 => ?_)
    · refine lv_iconst (v := 0) hx hb dX3_add_54 (by decide) ?_
      refine va_put (D := (dC, dI)) (ci := 3) (v := .int 0) (ty := .boolean) (C := RX3) (T := TX3) (N := 19) hx hb hts inGX3 tyX3 tyX3_ok nmX3 hown hK hP hD hS 0 rfl rfl 7 (by decide) (hts _ wd444) (fun _ h9 => h9) rfl (by decide +kernel) rfl rfl (Nat.le_of_ble_eq_true rfl) dX3_add_55 (fun H locs hP hD hS => ?_)
      have hP : va_P (dC, dI) vwCl [(om, .inr (3, [.int th, .int st, .int lo, .ref ob, .int f_1, .int bm.2.2.1, .int bm.2.2.2.1, .int 0, .ref ok, .int km.2, .int qm.1, .int qm.2.1, .int qm.2.2.1, .int qm.2.2.2, .int bd, .int ym.1, .int ym.2.1, .int ym.2.2.1, .int ym.2.2.2])), (ob, .inl (cZ, 5200, .inl (upd bm.1 bm.2.1.toNatClampNeg (vp_nar .boolean p0)))), (ok, .inl (cK, 600, .inl km.1))] H := hP
      have hD : va_D A [(om, .inr (3, [.int th, .int st, .int lo, .ref ob, .int f_1, .int bm.2.2.1, .int bm.2.2.2.1, .int 0, .ref ok, .int km.2, .int qm.1, .int qm.2.1, .int qm.2.2.1, .int qm.2.2.2, .int bd, .int ym.1, .int ym.2.1, .int ym.2.2.1, .int ym.2.2.2])), (ob, .inl (cZ, 5200, .inl (upd bm.1 bm.2.1.toNatClampNeg (vp_nar .boolean p0)))), (ok, .inl (cK, 600, .inl km.1))] := hD
      have hP9 := hP.sub (ws' := [(om, .inr (3, [.int th, .int st, .int lo, .ref ob, .int f_1, .int bm.2.2.1, .int bm.2.2.2.1, .int 0, .ref ok, .int km.2, .int qm.1, .int qm.2.1, .int qm.2.2.1, .int qm.2.2.2, .int bd, .int ym.1, .int ym.2.1, .int ym.2.2.1, .int ym.2.2.2])), (ob, .inl (cZ, 5200, .inl (upd bm.1 bm.2.1.toNatClampNeg (vp_nar .boolean p0)))), (ok, .inl (cK, 600, .inl km.1))]) [0, 1, 2] rfl
      have hD9 := hD.sub (ws' := [(om, .inr (3, [.int th, .int st, .int lo, .ref ob, .int f_1, .int bm.2.2.1, .int bm.2.2.2.1, .int 0, .ref ok, .int km.2, .int qm.1, .int qm.2.1, .int qm.2.2.1, .int qm.2.2.2, .int bd, .int ym.1, .int ym.2.1, .int ym.2.2.1, .int ym.2.2.2])), (ob, .inl (cZ, 5200, .inl (upd bm.1 bm.2.1.toNatClampNeg (vp_nar .boolean p0)))), (ok, .inl (cK, 600, .inl km.1))]) [0, 1, 2] (by decide) rfl
      exact W.vret hx hb hr (fun t ht hW => ⟨⟨(upd bm.1 bm.2.1.toNatClampNeg (vp_nar .boolean p0), f_1, bm.2.2.1, bm.2.2.2.1, 0), rfl, (plX3_add_1 st lo th bm km qm bd ym p0 _ ef_1 c_27 _ hw_3 c_47), by rw [ht]; exact hP9, hD9⟩, hS.F ht⟩) hS.2.2 dX3_add_58
    · refine lv_iconst (v := 1) hx hb dX3_add_50 (by decide) ?_
      refine lv_goto (tgt := 55) hx hb dX3_add_51 (by decide) ?_
      refine va_put (D := (dC, dI)) (ci := 3) (v := .int 1) (ty := .boolean) (C := RX3) (T := TX3) (N := 19) hx hb hts inGX3 tyX3 tyX3_ok nmX3 hown hK hP hD hS 0 rfl rfl 7 (by decide) (hts _ wd444) (fun _ h9 => h9) rfl (by decide +kernel) rfl rfl (Nat.le_of_ble_eq_true rfl) dX3_add_55 (fun H locs hP hD hS => ?_)
      have hP : va_P (dC, dI) vwCl [(om, .inr (3, [.int th, .int st, .int lo, .ref ob, .int f_1, .int bm.2.2.1, .int bm.2.2.2.1, .int 1, .ref ok, .int km.2, .int qm.1, .int qm.2.1, .int qm.2.2.1, .int qm.2.2.2, .int bd, .int ym.1, .int ym.2.1, .int ym.2.2.1, .int ym.2.2.2])), (ob, .inl (cZ, 5200, .inl (upd bm.1 bm.2.1.toNatClampNeg (vp_nar .boolean p0)))), (ok, .inl (cK, 600, .inl km.1))] H := hP
      have hD : va_D A [(om, .inr (3, [.int th, .int st, .int lo, .ref ob, .int f_1, .int bm.2.2.1, .int bm.2.2.2.1, .int 1, .ref ok, .int km.2, .int qm.1, .int qm.2.1, .int qm.2.2.1, .int qm.2.2.2, .int bd, .int ym.1, .int ym.2.1, .int ym.2.2.1, .int ym.2.2.2])), (ob, .inl (cZ, 5200, .inl (upd bm.1 bm.2.1.toNatClampNeg (vp_nar .boolean p0)))), (ok, .inl (cK, 600, .inl km.1))] := hD
      have hP9 := hP.sub (ws' := [(om, .inr (3, [.int th, .int st, .int lo, .ref ob, .int f_1, .int bm.2.2.1, .int bm.2.2.2.1, .int 1, .ref ok, .int km.2, .int qm.1, .int qm.2.1, .int qm.2.2.1, .int qm.2.2.2, .int bd, .int ym.1, .int ym.2.1, .int ym.2.2.1, .int ym.2.2.2])), (ob, .inl (cZ, 5200, .inl (upd bm.1 bm.2.1.toNatClampNeg (vp_nar .boolean p0)))), (ok, .inl (cK, 600, .inl km.1))]) [0, 1, 2] rfl
      have hD9 := hD.sub (ws' := [(om, .inr (3, [.int th, .int st, .int lo, .ref ob, .int f_1, .int bm.2.2.1, .int bm.2.2.2.1, .int 1, .ref ok, .int km.2, .int qm.1, .int qm.2.1, .int qm.2.2.1, .int qm.2.2.2, .int bd, .int ym.1, .int ym.2.1, .int ym.2.2.1, .int ym.2.2.2])), (ob, .inl (cZ, 5200, .inl (upd bm.1 bm.2.1.toNatClampNeg (vp_nar .boolean p0)))), (ok, .inl (cK, 600, .inl km.1))]) [0, 1, 2] (by decide) rfl
      exact W.vret hx hb hr (fun t ht hW => ⟨⟨(upd bm.1 bm.2.1.toNatClampNeg (vp_nar .boolean p0), f_1, bm.2.2.1, bm.2.2.2.1, 1), rfl, (plX3_add_2 st lo th bm km qm bd ym p0 _ ef_1 c_27 _ hw_3 c_47), by rw [ht]; exact hP9, hD9⟩, hS.F ht⟩) hS.2.2 dX3_add_58
theorem add_w {st lo th : Int32} {bm : Bm} {km : Rw} {qm : Tk} {bd : Int32} {ym : Tk} {x : Int32} : (FX3_add st lo th bm km qm bd ym x).2.1 = bm.2.1 + 1 := by
  unfold FX3_add; dsimp only; repeat' split
  all_goals rfl
theorem wok_add {st lo th : Int32} {bm u : Bm} {km : Rw} {qm : Tk} {bd : Int32} {ym : Tk} {x : Int32} {k : Nat} (h : wok bm (k + 1)) (e : u = FX3_add st lo th bm km qm bd ym x) : wok u k := by
  have h0 : wok bm 1 := wok_mono h (by omega)
  have e1 : u.2.1.toInt = bm.2.1.toInt + 1 := w_1 h0 (by rw [e, add_w])
  have h1 := h.1; have h2 := h.2
  exact ⟨by omega, by push_cast at h2; omega⟩
def FX3_stuff (st : Int32) (lo : Int32) (th : Int32) (bm : Bm) (km : Rw) (qm : Tk) (bd : Int32) (ym : Tk) : Bm :=
  let f_1 := bm.2.2.1 + 1
  let u_3 := FX3_add st lo th (bm.1, bm.2.1, f_1, bm.2.2.2.1, bm.2.2.2.2) km qm bd ym 0
  u_3
set_option maxRecDepth 100000 in
theorem plX3_stuff_0 (st : Int32) (lo : Int32) (th : Int32) (bm : Bm) (km : Rw) (qm : Tk) (bd : Int32) (ym : Tk) (f_1 : Int32) (ef_1 : f_1 = bm.2.2.1 + 1) (u_3 : Bm) (hw_2 : u_3 = FX3_add st lo th (bm.1, bm.2.1, f_1, bm.2.2.2.1, bm.2.2.2.2) km qm bd ym 0) : u_3 = FX3_stuff st lo th bm km qm bd ym := by
  subst ef_1
  subst hw_2
  exact rfl
set_option maxHeartbeats 4000000 in
set_option maxRecDepth 100000 in
theorem mX3_stuff (l : Launch) (dC : Nat → ClassId) (dI : Nat → Nat → Nat) (cZ cK : ClassId) (om ob ok : Nat) (sz : Nat) (st : Int32) (lo : Int32) (th : Int32) (bm : Bm) (km : Rw) (qm : Tk) (bd : Int32) (ym : Tk) (hW : wok bm 1) : Met l yX3_stuff (Cond.code yX3_stuff cX3_stuff 1 none :: G) ({ frames := 2, cells := 0, slots := 0, locals := 46 } : Room) (va_Pc [.ref om] (fun U => U.heap.size = sz ∧ va_P (dC, dI) vwCl [(om, .inr (3, [.int th, .int st, .int lo, .ref ob, .int bm.2.1, .int bm.2.2.1, .int bm.2.2.2.1, .int bm.2.2.2.2, .ref ok, .int km.2, .int qm.1, .int qm.2.1, .int qm.2.2.1, .int qm.2.2.2, .int bd, .int ym.1, .int ym.2.1, .int ym.2.2.1, .int ym.2.2.2])), (ob, .inl (cZ, 5200, .inl bm.1)), (ok, .inl (cK, 600, .inl km.1))] U.heap ∧ va_K (dC, dI) vwCl [(cZ, .boolean), (cK, .int)] U ∧ va_D (fun _ => True) [(om, .inr (3, [.int th, .int st, .int lo, .ref ob, .int bm.2.1, .int bm.2.2.1, .int bm.2.2.2.1, .int bm.2.2.2.2, .ref ok, .int km.2, .int qm.1, .int qm.2.1, .int qm.2.2.1, .int qm.2.2.2, .int bd, .int ym.1, .int ym.2.1, .int ym.2.2.1, .int ym.2.2.2])), (ob, .inl (cZ, 5200, .inl bm.1)), (ok, .inl (cK, 600, .inl km.1))] ∧ zOk U)) (va_Qv (fun (u : Bm) => u = (FX3_stuff st lo th bm km qm bd ym)) (fun (u : Bm) (t : State) => va_P (dC, dI) vwCl [(om, .inr (3, [.int th, .int st, .int lo, .ref ob, .int u.2.1, .int u.2.2.1, .int u.2.2.2.1, .int u.2.2.2.2, .ref ok, .int km.2, .int qm.1, .int qm.2.1, .int qm.2.2.1, .int qm.2.2.2, .int bd, .int ym.1, .int ym.2.1, .int ym.2.2.1, .int ym.2.2.2])), (ob, .inl (cZ, 5200, .inl u.1)), (ok, .inl (cK, 600, .inl km.1))] t.heap ∧ va_D (va_A [(om, .inr (3, [.int th, .int st, .int lo, .ref ob, .int bm.2.1, .int bm.2.2.1, .int bm.2.2.2.1, .int bm.2.2.2.2, .ref ok, .int km.2, .int qm.1, .int qm.2.1, .int qm.2.2.1, .int qm.2.2.2, .int bd, .int ym.1, .int ym.2.1, .int ym.2.2.1, .int ym.2.2.2])), (ob, .inl (cZ, 5200, .inl bm.1)), (ok, .inl (cK, 600, .inl km.1))] sz) [(om, .inr (3, [.int th, .int st, .int lo, .ref ob, .int u.2.1, .int u.2.2.1, .int u.2.2.2.1, .int u.2.2.2.2, .ref ok, .int km.2, .int qm.1, .int qm.2.1, .int qm.2.2.1, .int qm.2.2.2, .int bd, .int ym.1, .int ym.2.1, .int ym.2.2.1, .int ym.2.2.2])), (ob, .inl (cZ, 5200, .inl u.1)), (ok, .inl (cK, 600, .inl km.1))]) (va_A [(om, .inr (3, [.int th, .int st, .int lo, .ref ob, .int bm.2.1, .int bm.2.2.1, .int bm.2.2.2.1, .int bm.2.2.2.2, .ref ok, .int km.2, .int qm.1, .int qm.2.1, .int qm.2.2.1, .int qm.2.2.2, .int bd, .int ym.1, .int ym.2.1, .int ym.2.2.1, .int ym.2.2.2])), (ob, .inl (cZ, 5200, .inl bm.1)), (ok, .inl (cK, 600, .inl km.1))] sz)) 0 0 (va_A [(om, .inr (3, [.int th, .int st, .int lo, .ref ob, .int bm.2.1, .int bm.2.2.1, .int bm.2.2.2.1, .int bm.2.2.2.2, .ref ok, .int km.2, .int qm.1, .int qm.2.1, .int qm.2.2.1, .int qm.2.2.2, .int bd, .int ym.1, .int ym.2.1, .int ym.2.2.1, .int ym.2.2.2])), (ob, .inl (cZ, 5200, .inl bm.1)), (ok, .inl (cK, 600, .inl km.1))] sz) := by
  refine Met.ofW (cc := cX3_stuff) (maxL := 1) (ret := none) (by decide) rfl ?_
  intro p e s m args below meth c s₁ B hml hv
  obtain ⟨rfl, hsz, hP, hK, hD0, hZ⟩ := hv
  have hx := B.exec
  have hb := B.bytes
  have hr := B.returns
  have hts : ∀ w ∈ G, w.before [.ref om].toArray s = true := fun w h => atoms_spec (ws := (Cond.code yX3_stuff cX3_stuff 1 none :: G)) B.pre w (List.mem_cons_of_mem _ h)
  have hown : s.vm.findClass RX3 = some m.cls := findClass_of_methodNamed B.named
  have hlocks := B.notSynchronized
  subst hsz
  have hD := hD0.self (sz := s.heap.size)
  generalize hAe : va_A [(om, .inr (3, [.int th, .int st, .int lo, .ref ob, .int bm.2.1, .int bm.2.2.1, .int bm.2.2.2.1, .int bm.2.2.2.2, .ref ok, .int km.2, .int qm.1, .int qm.2.1, .int qm.2.2.1, .int qm.2.2.2, .int bd, .int ym.1, .int ym.2.1, .int ym.2.2.1, .int ym.2.2.2])), (ob, .inl (cZ, 5200, .inl bm.1)), (ok, .inl (cK, 600, .inl km.1))] s.heap.size = A at hD ⊢
  have hA : ∀ q : Nat, s.heap.size ≤ q → A q := fun q h => by rw [← hAe]; exact Or.inr h
  have hS : va_S A s.heap s.heap [] := va_S.rf
  have hP : va_P (dC, dI) vwCl [(om, .inr (3, [.int th, .int st, .int lo, .ref ob, .int bm.2.1, .int bm.2.2.1, .int bm.2.2.2.1, .int bm.2.2.2.2, .ref ok, .int km.2, .int qm.1, .int qm.2.1, .int qm.2.2.1, .int qm.2.2.2, .int bd, .int ym.1, .int ym.2.1, .int ym.2.2.1, .int ym.2.2.2])), (ob, .inl (cZ, 5200, .inl bm.1)), (ok, .inl (cK, 600, .inl km.1))] s.heap := hP
  have hl := lv_entry ([.ref om]) (n := 1) (Nat.le_of_ble_eq_true rfl)
  rw [lg_entry_eq]
  generalize (lg_sl ([.ref om]) ++ List.replicate (1 - (lg_sl ([.ref om])).length) Slot.unset).toArray = ls at hl ⊢
  have hl : lv_has ls 1 [(0, .ref om)] := hl
  refine lv_aload_n hx hb dX3_stuff_0 rfl (lv_at hl 0 rfl) ?_
  refine lv_dup hx hb dX3_stuff_1 rfl ?_
  refine va_get (D := (dC, dI)) (ci := 3) (v := .int bm.2.2.1) (C := RX3) (T := TX3) (N := 19) hx hb hts inGX3 hown hK hP 0 rfl rfl 5 (by decide) (hts _ wd442) (fun _ h9 => h9) rfl dX3_stuff_2 ?_
  refine lv_iconst (v := 1) hx hb dX3_stuff_5 (by decide) ?_
  refine lv_iadd hx hb dX3_stuff_6 ?_
  refine lv_topi (fun f_1 ef_1 => ?_)
  refine va_put (D := (dC, dI)) (ci := 3) (v := .int f_1) (ty := .int) (C := RX3) (T := TX3) (N := 19) hx hb hts inGX3 tyX3 tyX3_ok nmX3 hown hK hP hD hS 0 rfl rfl 5 (by decide) (hts _ wd442) (fun _ h9 => h9) rfl (by decide +kernel) rfl rfl (Nat.le_of_ble_eq_true rfl) dX3_stuff_7 (fun H locs hP hD hS => ?_)
  have hP : va_P (dC, dI) vwCl [(om, .inr (3, [.int th, .int st, .int lo, .ref ob, .int bm.2.1, .int f_1, .int bm.2.2.2.1, .int bm.2.2.2.2, .ref ok, .int km.2, .int qm.1, .int qm.2.1, .int qm.2.2.1, .int qm.2.2.2, .int bd, .int ym.1, .int ym.2.1, .int ym.2.2.1, .int ym.2.2.2])), (ob, .inl (cZ, 5200, .inl bm.1)), (ok, .inl (cK, 600, .inl km.1))] H := hP
  have hD : va_D A [(om, .inr (3, [.int th, .int st, .int lo, .ref ob, .int bm.2.1, .int f_1, .int bm.2.2.2.1, .int bm.2.2.2.2, .ref ok, .int km.2, .int qm.1, .int qm.2.1, .int qm.2.2.1, .int qm.2.2.2, .int bd, .int ym.1, .int ym.2.1, .int ym.2.2.1, .int ym.2.2.2])), (ob, .inl (cZ, 5200, .inl bm.1)), (ok, .inl (cK, 600, .inl km.1))] := hD
  refine lv_aload_n hx hb dX3_stuff_10 rfl (lv_at hl 0 rfl) ?_
  refine lv_iconst (v := 0) hx hb dX3_stuff_11 (by decide) ?_
  have hPc := hP.sub (ws' := [(om, .inr (3, [.int th, .int st, .int lo, .ref ob, .int bm.2.1, .int f_1, .int bm.2.2.2.1, .int bm.2.2.2.2, .ref ok, .int km.2, .int qm.1, .int qm.2.1, .int qm.2.2.1, .int qm.2.2.2, .int bd, .int ym.1, .int ym.2.1, .int ym.2.2.1, .int ym.2.2.2])), (ob, .inl (cZ, 5200, .inl bm.1)), (ok, .inl (cK, 600, .inl km.1))]) [0, 1, 2] rfl
  have hKc := hK.sub (tys' := [(cZ, .boolean), (cK, .int)]) [0, 1] rfl
  have hDc := hD.sub (ws' := [(om, .inr (3, [.int th, .int st, .int lo, .ref ob, .int bm.2.1, .int f_1, .int bm.2.2.2.1, .int bm.2.2.2.2, .ref ok, .int km.2, .int qm.1, .int qm.2.1, .int qm.2.2.1, .int qm.2.2.2, .int bd, .int ym.1, .int ym.2.1, .int ym.2.2.1, .int ym.2.2.2])), (ob, .inl (cZ, 5200, .inl bm.1)), (ok, .inl (cK, 600, .inl km.1))]) [0, 1, 2] (by decide) rfl
  have hFc := va_free (wc := [(om, .inr (3, [.int th, .int st, .int lo, .ref ob, .int bm.2.1, .int f_1, .int bm.2.2.2.1, .int bm.2.2.2.2, .ref ok, .int km.2, .int qm.1, .int qm.2.1, .int qm.2.2.1, .int qm.2.2.2, .int bd, .int ym.1, .int ym.2.1, .int ym.2.2.1, .int ym.2.2.2])), (ob, .inl (cZ, 5200, .inl bm.1)), (ok, .inl (cK, 600, .inl km.1))]) hD hS hA [0, 1, 2] rfl
  refine va_callv (va_runV (As := [.int 0]) (rest := []) ⟨hx, hb, hml, hown, hts⟩ (mX3_add l dC dI cZ cK om ob ok H.size st lo th (bm.1, bm.2.1, f_1, bm.2.2.2.1, bm.2.2.2.2) km qm bd ym 0 hW) (cwV 1 hts (gV wd517 wd518 wd14 wd30 wd519) rfl rfl rfl (by decide +kernel) ⟨Nat.le_of_ble_eq_true rfl, Nat.le_of_ble_eq_true rfl⟩) ⟨fb_rw, va_recv hKc hPc (ci := 3) (q0 := 0) rfl rfl, pre_rw hPc hKc hDc hZ⟩ rfl rfl hl.1 rfl (lv_room (Nat.le_of_ble_eq_true rfl)) dX3_stuff_12 ⟨Nat.le_of_ble_eq_true rfl, Nat.le_of_ble_eq_true rfl⟩) hS (fun q _ h => hFc q h) hFc (fun u_3 t H1 locs ht hvm hw_2 hB hz1 hk1 hS => ?_)
  obtain ⟨hP1, hD1⟩ := hB
  rw [ht] at hP1
  obtain ⟨hP, hD⟩ := va_join (wr := []) (w1 := [(om, .inr (3, [.int th, .int st, .int lo, .ref ob, .int u_3.2.1, .int u_3.2.2.1, .int u_3.2.2.2.1, .int u_3.2.2.2.2, .ref ok, .int km.2, .int qm.1, .int qm.2.1, .int qm.2.2.1, .int qm.2.2.2, .int bd, .int ym.1, .int ym.2.1, .int ym.2.2.1, .int ym.2.2.2])), (ob, .inl (cZ, 5200, .inl u_3.1)), (ok, .inl (cK, 600, .inl km.1))]) hP hD [0, 1, 2] [] rfl rfl (by decide) (by decide) hk1 hFc hP1 hD1
  generalize H1 = H at hP hS ⊢
  have hP : va_P (dC, dI) vwCl [(om, .inr (3, [.int th, .int st, .int lo, .ref ob, .int u_3.2.1, .int u_3.2.2.1, .int u_3.2.2.2.1, .int u_3.2.2.2.2, .ref ok, .int km.2, .int qm.1, .int qm.2.1, .int qm.2.2.1, .int qm.2.2.2, .int bd, .int ym.1, .int ym.2.1, .int ym.2.2.1, .int ym.2.2.2])), (ob, .inl (cZ, 5200, .inl u_3.1)), (ok, .inl (cK, 600, .inl km.1))] H := hP
  have hD : va_D A [(om, .inr (3, [.int th, .int st, .int lo, .ref ob, .int u_3.2.1, .int u_3.2.2.1, .int u_3.2.2.2.1, .int u_3.2.2.2.2, .ref ok, .int km.2, .int qm.1, .int qm.2.1, .int qm.2.2.1, .int qm.2.2.2, .int bd, .int ym.1, .int ym.2.1, .int ym.2.2.1, .int ym.2.2.2])), (ob, .inl (cZ, 5200, .inl u_3.1)), (ok, .inl (cK, 600, .inl km.1))] := hD
  have hP9 := hP.sub (ws' := [(om, .inr (3, [.int th, .int st, .int lo, .ref ob, .int u_3.2.1, .int u_3.2.2.1, .int u_3.2.2.2.1, .int u_3.2.2.2.2, .ref ok, .int km.2, .int qm.1, .int qm.2.1, .int qm.2.2.1, .int qm.2.2.2, .int bd, .int ym.1, .int ym.2.1, .int ym.2.2.1, .int ym.2.2.2])), (ob, .inl (cZ, 5200, .inl u_3.1)), (ok, .inl (cK, 600, .inl km.1))]) [0, 1, 2] rfl
  have hD9 := hD.sub (ws' := [(om, .inr (3, [.int th, .int st, .int lo, .ref ob, .int u_3.2.1, .int u_3.2.2.1, .int u_3.2.2.2.1, .int u_3.2.2.2.2, .ref ok, .int km.2, .int qm.1, .int qm.2.1, .int qm.2.2.1, .int qm.2.2.2, .int bd, .int ym.1, .int ym.2.1, .int ym.2.2.1, .int ym.2.2.2])), (ob, .inl (cZ, 5200, .inl u_3.1)), (ok, .inl (cK, 600, .inl km.1))]) [0, 1, 2] (by decide) rfl
  exact W.vret hx hb hr (fun t ht hW => ⟨⟨u_3, rfl, (plX3_stuff_0 st lo th bm km qm bd ym _ ef_1 _ hw_2), by rw [ht]; exact hP9, hD9⟩, hS.F ht⟩) hS.2.2 dX3_stuff_15
theorem stuff_w {st lo th : Int32} {bm : Bm} {km : Rw} {qm : Tk} {bd : Int32} {ym : Tk} : (FX3_stuff st lo th bm km qm bd ym).2.1 = bm.2.1 + 1 := by
  unfold FX3_stuff; exact add_w
theorem wok_stuff {st lo th : Int32} {bm u : Bm} {km : Rw} {qm : Tk} {bd : Int32} {ym : Tk} {k : Nat} (h : wok bm (k + 1)) (e : u = FX3_stuff st lo th bm km qm bd ym) : wok u k := by
  have h0 : wok bm 1 := wok_mono h (by omega)
  have e1 : u.2.1.toInt = bm.2.1.toInt + 1 := w_1 h0 (by rw [e, stuff_w])
  have h1 := h.1; have h2 := h.2
  exact ⟨by omega, by push_cast at h2; omega⟩
def LX3_putBit_102 (st : Int32) (lo : Int32) (th : Int32) (bm : Bm) (km : Rw) (qm : Tk) (bd : Int32) (ym : Tk) (p0 : Int32) (pl : Int32) : Int32 × Bm :=
  if st ≤ 1 then
    (pl, bm)
  else
    if bm.2.2.2.1 = st then
      let u_2 := FX3_stuff st lo th (bm.1, bm.2.1, bm.2.2.1, 0, bm.2.2.2.2) km qm bd ym
      (pl, u_2)
    else
      (pl, bm)
def LX3_putBit_84 (st : Int32) (lo : Int32) (th : Int32) (bm : Bm) (km : Rw) (qm : Tk) (bd : Int32) (ym : Tk) (p0 : Int32) (pl : Int32) : Int32 × Bm :=
  if p0 = 0 then
    LX3_putBit_102 st lo th (bm.1, bm.2.1, bm.2.2.1, 0, bm.2.2.2.2) km qm bd ym p0 pl
  else
    let f_1 := bm.2.2.2.1 + 1
    LX3_putBit_102 st lo th (bm.1, bm.2.1, bm.2.2.1, f_1, bm.2.2.2.2) km qm bd ym p0 pl
def LX3_putBit_36 (st : Int32) (lo : Int32) (th : Int32) (bm : Bm) (km : Rw) (qm : Tk) (bd : Int32) (ym : Tk) (p0 : Int32) : Int32 × Bm :=
  let u_2 := FX3_add st lo th bm km qm bd ym p0
  if st = 1 then
    if lo = 0 then
      LX3_putBit_84 st lo th u_2 km qm bd ym p0 bm.2.1
    else
      if u_2.2.2.2.2 = 0 then
        LX3_putBit_84 st lo th u_2 km qm bd ym p0 bm.2.1
      else
        if (u_2.2.1 - u_2.2.1 / 8 * 8) = 7 then
          let u_4 := FX3_stuff st lo th u_2 km qm bd ym
          LX3_putBit_84 st lo th u_4 km qm bd ym p0 bm.2.1
        else
          LX3_putBit_84 st lo th u_2 km qm bd ym p0 bm.2.1
  else
    LX3_putBit_84 st lo th u_2 km qm bd ym p0 bm.2.1
def FX3_putBit (st : Int32) (lo : Int32) (th : Int32) (bm : Bm) (km : Rw) (qm : Tk) (bd : Int32) (ym : Tk) (p0 : Int32) : Int32 × Bm :=
  if st = 1 then
    if lo = 0 then
      if bm.2.2.2.2 = 0 then
        LX3_putBit_36 st lo th bm km qm bd ym p0
      else
        if (bm.2.1 - bm.2.1 / 8 * 8) = 0 then
          let u_2 := FX3_stuff st lo th bm km qm bd ym
          LX3_putBit_36 st lo th u_2 km qm bd ym p0
        else
          LX3_putBit_36 st lo th bm km qm bd ym p0
    else
      LX3_putBit_36 st lo th bm km qm bd ym p0
  else
    LX3_putBit_36 st lo th bm km qm bd ym p0
set_option maxRecDepth 100000 in
theorem plX3_putBit_l102_0 (st : Int32) (lo : Int32) (th : Int32) (bm : Bm) (km : Rw) (qm : Tk) (bd : Int32) (ym : Tk) (p0 : Int32) (pl : Int32) (c_107 : st ≤ 1) : (pl, bm) = LX3_putBit_102 st lo th bm km qm bd ym p0 pl := by
  exact (if_pos c_107).symm
set_option maxRecDepth 100000 in
theorem plX3_putBit_l102_1 (st : Int32) (lo : Int32) (th : Int32) (bm : Bm) (km : Rw) (qm : Tk) (bd : Int32) (ym : Tk) (p0 : Int32) (pl : Int32) (c_107 : ¬ (st ≤ 1)) (c_118 : ¬ (bm.2.2.2.1 = st)) : (pl, bm) = LX3_putBit_102 st lo th bm km qm bd ym p0 pl := by
  exact ((if_neg c_107).trans (if_neg c_118)).symm
set_option maxRecDepth 100000 in
theorem plX3_putBit_l102_2 (st : Int32) (lo : Int32) (th : Int32) (bm : Bm) (km : Rw) (qm : Tk) (bd : Int32) (ym : Tk) (p0 : Int32) (pl : Int32) (c_107 : ¬ (st ≤ 1)) (c_118 : bm.2.2.2.1 = st) (u_2 : Bm) (hw_1 : u_2 = FX3_stuff st lo th (bm.1, bm.2.1, bm.2.2.1, 0, bm.2.2.2.2) km qm bd ym) : (pl, u_2) = LX3_putBit_102 st lo th bm km qm bd ym p0 pl := by
  subst hw_1
  exact ((if_neg c_107).trans (if_pos c_118)).symm
set_option maxRecDepth 100000 in
theorem plX3_putBit_l84_0 (st : Int32) (lo : Int32) (th : Int32) (bm : Bm) (km : Rw) (qm : Tk) (bd : Int32) (ym : Tk) (p0 : Int32) (pl : Int32) (c_86 : p0 = 0) : LX3_putBit_102 st lo th (bm.1, bm.2.1, bm.2.2.1, 0, bm.2.2.2.2) km qm bd ym p0 pl = LX3_putBit_84 st lo th bm km qm bd ym p0 pl := by
  exact (if_pos c_86).symm
set_option maxRecDepth 100000 in
theorem plX3_putBit_l84_1 (st : Int32) (lo : Int32) (th : Int32) (bm : Bm) (km : Rw) (qm : Tk) (bd : Int32) (ym : Tk) (p0 : Int32) (pl : Int32) (c_86 : ¬ (p0 = 0)) (f_1 : Int32) (ef_1 : f_1 = bm.2.2.2.1 + 1) : LX3_putBit_102 st lo th (bm.1, bm.2.1, bm.2.2.1, f_1, bm.2.2.2.2) km qm bd ym p0 pl = LX3_putBit_84 st lo th bm km qm bd ym p0 pl := by
  subst ef_1
  exact (if_neg c_86).symm
set_option maxRecDepth 100000 in
theorem plX3_putBit_l36_0 (st : Int32) (lo : Int32) (th : Int32) (bm : Bm) (km : Rw) (qm : Tk) (bd : Int32) (ym : Tk) (p0 : Int32) (u_2 : Bm) (hw_1 : u_2 = FX3_add st lo th bm km qm bd ym p0) (c_51 : ¬ (st = 1)) : LX3_putBit_84 st lo th u_2 km qm bd ym p0 bm.2.1 = LX3_putBit_36 st lo th bm km qm bd ym p0 := by
  subst hw_1
  exact (if_neg c_51).symm
set_option maxRecDepth 100000 in
theorem plX3_putBit_l36_1 (st : Int32) (lo : Int32) (th : Int32) (bm : Bm) (km : Rw) (qm : Tk) (bd : Int32) (ym : Tk) (p0 : Int32) (u_2 : Bm) (hw_1 : u_2 = FX3_add st lo th bm km qm bd ym p0) (c_51 : st = 1) (c_58 : lo = 0) : LX3_putBit_84 st lo th u_2 km qm bd ym p0 bm.2.1 = LX3_putBit_36 st lo th bm km qm bd ym p0 := by
  subst hw_1
  exact ((if_pos c_51).trans (if_pos c_58)).symm
set_option maxRecDepth 100000 in
theorem plX3_putBit_l36_2 (st : Int32) (lo : Int32) (th : Int32) (bm : Bm) (km : Rw) (qm : Tk) (bd : Int32) (ym : Tk) (p0 : Int32) (u_2 : Bm) (hw_1 : u_2 = FX3_add st lo th bm km qm bd ym p0) (c_51 : st = 1) (c_58 : ¬ (lo = 0)) (c_65 : u_2.2.2.2.2 = 0) : LX3_putBit_84 st lo th u_2 km qm bd ym p0 bm.2.1 = LX3_putBit_36 st lo th bm km qm bd ym p0 := by
  subst hw_1
  exact (((if_pos c_51).trans (if_neg c_58)).trans (if_pos c_65)).symm
set_option maxRecDepth 100000 in
theorem plX3_putBit_l36_3 (st : Int32) (lo : Int32) (th : Int32) (bm : Bm) (km : Rw) (qm : Tk) (bd : Int32) (ym : Tk) (p0 : Int32) (u_2 : Bm) (hw_1 : u_2 = FX3_add st lo th bm km qm bd ym p0) (c_51 : st = 1) (c_58 : ¬ (lo = 0)) (c_65 : ¬ (u_2.2.2.2.2 = 0)) (c_77 : ¬ ((u_2.2.1 - u_2.2.1 / 8 * 8) = 7)) : LX3_putBit_84 st lo th u_2 km qm bd ym p0 bm.2.1 = LX3_putBit_36 st lo th bm km qm bd ym p0 := by
  subst hw_1
  exact ((((if_pos c_51).trans (if_neg c_58)).trans (if_neg c_65)).trans (if_neg c_77)).symm
set_option maxRecDepth 100000 in
theorem plX3_putBit_l36_4 (st : Int32) (lo : Int32) (th : Int32) (bm : Bm) (km : Rw) (qm : Tk) (bd : Int32) (ym : Tk) (p0 : Int32) (u_2 : Bm) (hw_1 : u_2 = FX3_add st lo th bm km qm bd ym p0) (c_51 : st = 1) (c_58 : ¬ (lo = 0)) (c_65 : ¬ (u_2.2.2.2.2 = 0)) (c_77 : (u_2.2.1 - u_2.2.1 / 8 * 8) = 7) (u_4 : Bm) (hw_3 : u_4 = FX3_stuff st lo th u_2 km qm bd ym) : LX3_putBit_84 st lo th u_4 km qm bd ym p0 bm.2.1 = LX3_putBit_36 st lo th bm km qm bd ym p0 := by
  subst hw_1
  subst hw_3
  exact ((((if_pos c_51).trans (if_neg c_58)).trans (if_neg c_65)).trans (if_pos c_77)).symm
set_option maxRecDepth 100000 in
theorem plX3_putBit_0 (st : Int32) (lo : Int32) (th : Int32) (bm : Bm) (km : Rw) (qm : Tk) (bd : Int32) (ym : Tk) (p0 : Int32) (c_5 : ¬ (st = 1)) : LX3_putBit_36 st lo th bm km qm bd ym p0 = FX3_putBit st lo th bm km qm bd ym p0 := by
  exact (if_neg c_5).symm
set_option maxRecDepth 100000 in
theorem plX3_putBit_1 (st : Int32) (lo : Int32) (th : Int32) (bm : Bm) (km : Rw) (qm : Tk) (bd : Int32) (ym : Tk) (p0 : Int32) (c_5 : st = 1) (c_12 : ¬ (lo = 0)) : LX3_putBit_36 st lo th bm km qm bd ym p0 = FX3_putBit st lo th bm km qm bd ym p0 := by
  exact ((if_pos c_5).trans (if_neg c_12)).symm
set_option maxRecDepth 100000 in
theorem plX3_putBit_2 (st : Int32) (lo : Int32) (th : Int32) (bm : Bm) (km : Rw) (qm : Tk) (bd : Int32) (ym : Tk) (p0 : Int32) (c_5 : st = 1) (c_12 : lo = 0) (c_19 : bm.2.2.2.2 = 0) : LX3_putBit_36 st lo th bm km qm bd ym p0 = FX3_putBit st lo th bm km qm bd ym p0 := by
  exact (((if_pos c_5).trans (if_pos c_12)).trans (if_pos c_19)).symm
set_option maxRecDepth 100000 in
theorem plX3_putBit_3 (st : Int32) (lo : Int32) (th : Int32) (bm : Bm) (km : Rw) (qm : Tk) (bd : Int32) (ym : Tk) (p0 : Int32) (c_5 : st = 1) (c_12 : lo = 0) (c_19 : ¬ (bm.2.2.2.2 = 0)) (c_29 : ¬ ((bm.2.1 - bm.2.1 / 8 * 8) = 0)) : LX3_putBit_36 st lo th bm km qm bd ym p0 = FX3_putBit st lo th bm km qm bd ym p0 := by
  exact ((((if_pos c_5).trans (if_pos c_12)).trans (if_neg c_19)).trans (if_neg c_29)).symm
set_option maxRecDepth 100000 in
theorem plX3_putBit_4 (st : Int32) (lo : Int32) (th : Int32) (bm : Bm) (km : Rw) (qm : Tk) (bd : Int32) (ym : Tk) (p0 : Int32) (c_5 : st = 1) (c_12 : lo = 0) (c_19 : ¬ (bm.2.2.2.2 = 0)) (c_29 : (bm.2.1 - bm.2.1 / 8 * 8) = 0) (u_2 : Bm) (hw_1 : u_2 = FX3_stuff st lo th bm km qm bd ym) : LX3_putBit_36 st lo th u_2 km qm bd ym p0 = FX3_putBit st lo th bm km qm bd ym p0 := by
  subst hw_1
  exact ((((if_pos c_5).trans (if_pos c_12)).trans (if_neg c_19)).trans (if_pos c_29)).symm
set_option maxHeartbeats 4000000 in
set_option maxRecDepth 100000 in
theorem kX3_putBit_102 {p : Program} {l : Launch} {e : Env} {s : State} {m : MethodId} {args : Array Value} {below : List Frame} {meth : Method} {c : Code} {dC : Nat → ClassId} {dI : Nat → Nat → Nat} {cZ cK : ClassId} {om ob ok : Nat} {st : Int32} {lo : Int32} {z : Int32 × Bm} {A : Nat → Prop} (hx : p.tables.exec = Jvm.exec) (hb : c.code = cX3_putBit) (hr : meth.sig.returnType = (some .int)) (hml : c.maxLocals = 3) (hown : s.vm.findClass RX3 = some m.cls) (hts : ∀ w ∈ G, w.before args s = true) (hlocks : meth.locks = false) (hA : ∀ q : Nat, s.heap.size ≤ q → A q) (hZ : zOk s) (hK : va_K (dC, dI) vwCl [(cZ, .boolean), (cK, .int)] s) : ∀ (th : Int32) (bm : Bm) (km : Rw) (qm : Tk) (bd : Int32) (ym : Tk) (p0 : Int32) (pl : Int32), (wok bm 1) → LX3_putBit_102 st lo th bm km qm bd ym p0 pl = z → ∀ (H : Heap) (locs : List Loc), va_P (dC, dI) vwCl [(om, .inr (3, [.int th, .int st, .int lo, .ref ob, .int bm.2.1, .int bm.2.2.1, .int bm.2.2.2.1, .int bm.2.2.2.2, .ref ok, .int km.2, .int qm.1, .int qm.2.1, .int qm.2.2.1, .int qm.2.2.2, .int bd, .int ym.1, .int ym.2.1, .int ym.2.2.1, .int ym.2.2.2])), (ob, .inl (cZ, 5200, .inl bm.1)), (ok, .inl (cK, 600, .inl km.1))] H → va_D A [(om, .inr (3, [.int th, .int st, .int lo, .ref ob, .int bm.2.1, .int bm.2.2.1, .int bm.2.2.2.1, .int bm.2.2.2.2, .ref ok, .int km.2, .int qm.1, .int qm.2.1, .int qm.2.2.1, .int qm.2.2.2, .int bd, .int ym.1, .int ym.2.1, .int ym.2.2.1, .int ym.2.2.2])), (ob, .inl (cZ, 5200, .inl bm.1)), (ok, .inl (cK, 600, .inl km.1))] → va_S A s.heap H locs → ∀ (ls : Array Slot), lv_has ls 3 [(0, .ref om), (1, .int p0), (2, .int pl)] → W p l e (headSpec (Cond.code yX3_putBit cX3_putBit 3 (some .int) :: G) ({ frames := 3, cells := 0, slots := 0, locals := 66 } : Room)).room s m args below meth c H locs 0 0 (MQ below (va_Qi (fun (r : Int32) (u : Bm) => (r, u) = z) (fun (u : Bm) (t : State) => va_P (dC, dI) vwCl [(om, .inr (3, [.int th, .int st, .int lo, .ref ob, .int u.2.1, .int u.2.2.1, .int u.2.2.2.1, .int u.2.2.2.2, .ref ok, .int km.2, .int qm.1, .int qm.2.1, .int qm.2.2.1, .int qm.2.2.2, .int bd, .int ym.1, .int ym.2.1, .int ym.2.2.1, .int ym.2.2.2])), (ob, .inl (cZ, 5200, .inl u.1)), (ok, .inl (cK, 600, .inl km.1))] t.heap ∧ va_D A [(om, .inr (3, [.int th, .int st, .int lo, .ref ob, .int u.2.1, .int u.2.2.1, .int u.2.2.2.1, .int u.2.2.2.2, .ref ok, .int km.2, .int qm.1, .int qm.2.1, .int qm.2.2.1, .int qm.2.2.2, .int bd, .int ym.1, .int ym.2.1, .int ym.2.2.1, .int ym.2.2.2])), (ob, .inl (cZ, 5200, .inl u.1)), (ok, .inl (cK, 600, .inl km.1))]) A) args s 0 0 A) (F0 m 102 ls []) := by
  intro th bm km qm bd ym p0 pl hW hz H locs hP hD hS ls hl
  refine lv_aload_n hx hb dX3_putBit_102 rfl (lv_at hl 0 rfl) ?_
  refine va_get (D := (dC, dI)) (ci := 3) (v := .int st) (C := RX3) (T := TX3) (N := 19) hx hb hts inGX3 hown hK hP 0 rfl rfl 1 (by decide) (hts _ wd438) (fun _ h9 => h9) rfl dX3_putBit_103 ?_
  refine lv_iconst (v := 1) hx hb dX3_putBit_106 (by decide) ?_
  refine lv_icmp_le (tgt := 130) hx hb dX3_putBit_107 (by decide) (fun c_107 => ?_) (fun c_107 => ?_)
  · refine lv_iload_n hx hb dX3_putBit_130 rfl (lv_at hl 2 rfl) ?_
    have hP9 := hP.sub (ws' := [(om, .inr (3, [.int th, .int st, .int lo, .ref ob, .int bm.2.1, .int bm.2.2.1, .int bm.2.2.2.1, .int bm.2.2.2.2, .ref ok, .int km.2, .int qm.1, .int qm.2.1, .int qm.2.2.1, .int qm.2.2.2, .int bd, .int ym.1, .int ym.2.1, .int ym.2.2.1, .int ym.2.2.2])), (ob, .inl (cZ, 5200, .inl bm.1)), (ok, .inl (cK, 600, .inl km.1))]) [0, 1, 2] rfl
    have hD9 := hD.sub (ws' := [(om, .inr (3, [.int th, .int st, .int lo, .ref ob, .int bm.2.1, .int bm.2.2.1, .int bm.2.2.2.1, .int bm.2.2.2.2, .ref ok, .int km.2, .int qm.1, .int qm.2.1, .int qm.2.2.1, .int qm.2.2.2, .int bd, .int ym.1, .int ym.2.1, .int ym.2.2.1, .int ym.2.2.2])), (ob, .inl (cZ, 5200, .inl bm.1)), (ok, .inl (cK, 600, .inl km.1))]) [0, 1, 2] (by decide) rfl
    exact W.iret (v := pl) hx hb hr (fun t ht hW => ⟨⟨pl, bm, rfl, ((plX3_putBit_l102_0 st lo th bm km qm bd ym p0 pl c_107).trans hz), by rw [ht]; exact hP9, hD9⟩, hS.F ht⟩) hS.2.2 dX3_putBit_131
  · refine lv_aload_n hx hb dX3_putBit_110 rfl (lv_at hl 0 rfl) ?_
    refine va_get (D := (dC, dI)) (ci := 3) (v := .int bm.2.2.2.1) (C := RX3) (T := TX3) (N := 19) hx hb hts inGX3 hown hK hP 0 rfl rfl 6 (by decide) (hts _ wd443) (fun _ h9 => h9) rfl dX3_putBit_111 ?_
    refine lv_aload_n hx hb dX3_putBit_114 rfl (lv_at hl 0 rfl) ?_
    refine va_get (D := (dC, dI)) (ci := 3) (v := .int st) (C := RX3) (T := TX3) (N := 19) hx hb hts inGX3 hown hK hP 0 rfl rfl 1 (by decide) (hts _ wd438) (fun _ h9 => h9) rfl dX3_putBit_115 ?_
    refine lv_icmp_ne (tgt := 130) hx hb dX3_putBit_118 (by decide) (fun c_118 => ?_) (fun c_118 => ?_)
    · refine lv_iload_n hx hb dX3_putBit_130 rfl (lv_at hl 2 rfl) ?_
      have hP9 := hP.sub (ws' := [(om, .inr (3, [.int th, .int st, .int lo, .ref ob, .int bm.2.1, .int bm.2.2.1, .int bm.2.2.2.1, .int bm.2.2.2.2, .ref ok, .int km.2, .int qm.1, .int qm.2.1, .int qm.2.2.1, .int qm.2.2.2, .int bd, .int ym.1, .int ym.2.1, .int ym.2.2.1, .int ym.2.2.2])), (ob, .inl (cZ, 5200, .inl bm.1)), (ok, .inl (cK, 600, .inl km.1))]) [0, 1, 2] rfl
      have hD9 := hD.sub (ws' := [(om, .inr (3, [.int th, .int st, .int lo, .ref ob, .int bm.2.1, .int bm.2.2.1, .int bm.2.2.2.1, .int bm.2.2.2.2, .ref ok, .int km.2, .int qm.1, .int qm.2.1, .int qm.2.2.1, .int qm.2.2.2, .int bd, .int ym.1, .int ym.2.1, .int ym.2.2.1, .int ym.2.2.2])), (ob, .inl (cZ, 5200, .inl bm.1)), (ok, .inl (cK, 600, .inl km.1))]) [0, 1, 2] (by decide) rfl
      exact W.iret (v := pl) hx hb hr (fun t ht hW => ⟨⟨pl, bm, rfl, ((plX3_putBit_l102_1 st lo th bm km qm bd ym p0 pl c_107 c_118).trans hz), by rw [ht]; exact hP9, hD9⟩, hS.F ht⟩) hS.2.2 dX3_putBit_131
    · refine lv_aload_n hx hb dX3_putBit_121 rfl (lv_at hl 0 rfl) ?_
      refine lv_iconst (v := 0) hx hb dX3_putBit_122 (by decide) ?_
      refine va_put (D := (dC, dI)) (ci := 3) (v := .int 0) (ty := .int) (C := RX3) (T := TX3) (N := 19) hx hb hts inGX3 tyX3 tyX3_ok nmX3 hown hK hP hD hS 0 rfl rfl 6 (by decide) (hts _ wd443) (fun _ h9 => h9) rfl (by decide +kernel) rfl rfl (Nat.le_of_ble_eq_true rfl) dX3_putBit_123 (fun H locs hP hD hS => ?_)
      have hP : va_P (dC, dI) vwCl [(om, .inr (3, [.int th, .int st, .int lo, .ref ob, .int bm.2.1, .int bm.2.2.1, .int 0, .int bm.2.2.2.2, .ref ok, .int km.2, .int qm.1, .int qm.2.1, .int qm.2.2.1, .int qm.2.2.2, .int bd, .int ym.1, .int ym.2.1, .int ym.2.2.1, .int ym.2.2.2])), (ob, .inl (cZ, 5200, .inl bm.1)), (ok, .inl (cK, 600, .inl km.1))] H := hP
      have hD : va_D A [(om, .inr (3, [.int th, .int st, .int lo, .ref ob, .int bm.2.1, .int bm.2.2.1, .int 0, .int bm.2.2.2.2, .ref ok, .int km.2, .int qm.1, .int qm.2.1, .int qm.2.2.1, .int qm.2.2.2, .int bd, .int ym.1, .int ym.2.1, .int ym.2.2.1, .int ym.2.2.2])), (ob, .inl (cZ, 5200, .inl bm.1)), (ok, .inl (cK, 600, .inl km.1))] := hD
      refine lv_aload_n hx hb dX3_putBit_126 rfl (lv_at hl 0 rfl) ?_
      have hPc := hP.sub (ws' := [(om, .inr (3, [.int th, .int st, .int lo, .ref ob, .int bm.2.1, .int bm.2.2.1, .int 0, .int bm.2.2.2.2, .ref ok, .int km.2, .int qm.1, .int qm.2.1, .int qm.2.2.1, .int qm.2.2.2, .int bd, .int ym.1, .int ym.2.1, .int ym.2.2.1, .int ym.2.2.2])), (ob, .inl (cZ, 5200, .inl bm.1)), (ok, .inl (cK, 600, .inl km.1))]) [0, 1, 2] rfl
      have hKc := hK.sub (tys' := [(cZ, .boolean), (cK, .int)]) [0, 1] rfl
      have hDc := hD.sub (ws' := [(om, .inr (3, [.int th, .int st, .int lo, .ref ob, .int bm.2.1, .int bm.2.2.1, .int 0, .int bm.2.2.2.2, .ref ok, .int km.2, .int qm.1, .int qm.2.1, .int qm.2.2.1, .int qm.2.2.2, .int bd, .int ym.1, .int ym.2.1, .int ym.2.2.1, .int ym.2.2.2])), (ob, .inl (cZ, 5200, .inl bm.1)), (ok, .inl (cK, 600, .inl km.1))]) [0, 1, 2] (by decide) rfl
      have hFc := va_free (wc := [(om, .inr (3, [.int th, .int st, .int lo, .ref ob, .int bm.2.1, .int bm.2.2.1, .int 0, .int bm.2.2.2.2, .ref ok, .int km.2, .int qm.1, .int qm.2.1, .int qm.2.2.1, .int qm.2.2.2, .int bd, .int ym.1, .int ym.2.1, .int ym.2.2.1, .int ym.2.2.2])), (ob, .inl (cZ, 5200, .inl bm.1)), (ok, .inl (cK, 600, .inl km.1))]) hD hS hA [0, 1, 2] rfl
      refine va_callv (va_runV (As := []) (rest := []) ⟨hx, hb, hml, hown, hts⟩ (mX3_stuff l dC dI cZ cK om ob ok H.size st lo th (bm.1, bm.2.1, bm.2.2.1, 0, bm.2.2.2.2) km qm bd ym hW) (cwV 0 hts (gV wd514 wd515 wd13 wd30 wd516) rfl rfl rfl (by decide +kernel) ⟨Nat.le_of_ble_eq_true rfl, Nat.le_of_ble_eq_true rfl⟩) ⟨fb_rw, va_recv hKc hPc (ci := 3) (q0 := 0) rfl rfl, pre_rw hPc hKc hDc hZ⟩ rfl rfl hl.1 rfl (lv_room (Nat.le_of_ble_eq_true rfl)) dX3_putBit_127 ⟨Nat.le_of_ble_eq_true rfl, Nat.le_of_ble_eq_true rfl⟩) hS (fun q _ h => hFc q h) hFc (fun u_2 t H1 locs ht hvm hw_1 hB hz1 hk1 hS => ?_)
      obtain ⟨hP1, hD1⟩ := hB
      rw [ht] at hP1
      obtain ⟨hP, hD⟩ := va_join (wr := []) (w1 := [(om, .inr (3, [.int th, .int st, .int lo, .ref ob, .int u_2.2.1, .int u_2.2.2.1, .int u_2.2.2.2.1, .int u_2.2.2.2.2, .ref ok, .int km.2, .int qm.1, .int qm.2.1, .int qm.2.2.1, .int qm.2.2.2, .int bd, .int ym.1, .int ym.2.1, .int ym.2.2.1, .int ym.2.2.2])), (ob, .inl (cZ, 5200, .inl u_2.1)), (ok, .inl (cK, 600, .inl km.1))]) hP hD [0, 1, 2] [] rfl rfl (by decide) (by decide) hk1 hFc hP1 hD1
      generalize H1 = H at hP hS ⊢
      have hP : va_P (dC, dI) vwCl [(om, .inr (3, [.int th, .int st, .int lo, .ref ob, .int u_2.2.1, .int u_2.2.2.1, .int u_2.2.2.2.1, .int u_2.2.2.2.2, .ref ok, .int km.2, .int qm.1, .int qm.2.1, .int qm.2.2.1, .int qm.2.2.2, .int bd, .int ym.1, .int ym.2.1, .int ym.2.2.1, .int ym.2.2.2])), (ob, .inl (cZ, 5200, .inl u_2.1)), (ok, .inl (cK, 600, .inl km.1))] H := hP
      have hD : va_D A [(om, .inr (3, [.int th, .int st, .int lo, .ref ob, .int u_2.2.1, .int u_2.2.2.1, .int u_2.2.2.2.1, .int u_2.2.2.2.2, .ref ok, .int km.2, .int qm.1, .int qm.2.1, .int qm.2.2.1, .int qm.2.2.2, .int bd, .int ym.1, .int ym.2.1, .int ym.2.2.1, .int ym.2.2.2])), (ob, .inl (cZ, 5200, .inl u_2.1)), (ok, .inl (cK, 600, .inl km.1))] := hD
      refine lv_iload_n hx hb dX3_putBit_130 rfl (lv_at hl 2 rfl) ?_
      have hP9 := hP.sub (ws' := [(om, .inr (3, [.int th, .int st, .int lo, .ref ob, .int u_2.2.1, .int u_2.2.2.1, .int u_2.2.2.2.1, .int u_2.2.2.2.2, .ref ok, .int km.2, .int qm.1, .int qm.2.1, .int qm.2.2.1, .int qm.2.2.2, .int bd, .int ym.1, .int ym.2.1, .int ym.2.2.1, .int ym.2.2.2])), (ob, .inl (cZ, 5200, .inl u_2.1)), (ok, .inl (cK, 600, .inl km.1))]) [0, 1, 2] rfl
      have hD9 := hD.sub (ws' := [(om, .inr (3, [.int th, .int st, .int lo, .ref ob, .int u_2.2.1, .int u_2.2.2.1, .int u_2.2.2.2.1, .int u_2.2.2.2.2, .ref ok, .int km.2, .int qm.1, .int qm.2.1, .int qm.2.2.1, .int qm.2.2.2, .int bd, .int ym.1, .int ym.2.1, .int ym.2.2.1, .int ym.2.2.2])), (ob, .inl (cZ, 5200, .inl u_2.1)), (ok, .inl (cK, 600, .inl km.1))]) [0, 1, 2] (by decide) rfl
      exact W.iret (v := pl) hx hb hr (fun t ht hW => ⟨⟨pl, u_2, rfl, ((plX3_putBit_l102_2 st lo th bm km qm bd ym p0 pl c_107 c_118 _ hw_1).trans hz), by rw [ht]; exact hP9, hD9⟩, hS.F ht⟩) hS.2.2 dX3_putBit_131
set_option maxHeartbeats 4000000 in
set_option maxRecDepth 100000 in
theorem kX3_putBit_84 {p : Program} {l : Launch} {e : Env} {s : State} {m : MethodId} {args : Array Value} {below : List Frame} {meth : Method} {c : Code} {dC : Nat → ClassId} {dI : Nat → Nat → Nat} {cZ cK : ClassId} {om ob ok : Nat} {st : Int32} {lo : Int32} {z : Int32 × Bm} {A : Nat → Prop} (hx : p.tables.exec = Jvm.exec) (hb : c.code = cX3_putBit) (hr : meth.sig.returnType = (some .int)) (hml : c.maxLocals = 3) (hown : s.vm.findClass RX3 = some m.cls) (hts : ∀ w ∈ G, w.before args s = true) (hlocks : meth.locks = false) (hA : ∀ q : Nat, s.heap.size ≤ q → A q) (hZ : zOk s) (hK : va_K (dC, dI) vwCl [(cZ, .boolean), (cK, .int)] s) : ∀ (th : Int32) (bm : Bm) (km : Rw) (qm : Tk) (bd : Int32) (ym : Tk) (p0 : Int32) (pl : Int32), (wok bm 1) → LX3_putBit_84 st lo th bm km qm bd ym p0 pl = z → ∀ (H : Heap) (locs : List Loc), va_P (dC, dI) vwCl [(om, .inr (3, [.int th, .int st, .int lo, .ref ob, .int bm.2.1, .int bm.2.2.1, .int bm.2.2.2.1, .int bm.2.2.2.2, .ref ok, .int km.2, .int qm.1, .int qm.2.1, .int qm.2.2.1, .int qm.2.2.2, .int bd, .int ym.1, .int ym.2.1, .int ym.2.2.1, .int ym.2.2.2])), (ob, .inl (cZ, 5200, .inl bm.1)), (ok, .inl (cK, 600, .inl km.1))] H → va_D A [(om, .inr (3, [.int th, .int st, .int lo, .ref ob, .int bm.2.1, .int bm.2.2.1, .int bm.2.2.2.1, .int bm.2.2.2.2, .ref ok, .int km.2, .int qm.1, .int qm.2.1, .int qm.2.2.1, .int qm.2.2.2, .int bd, .int ym.1, .int ym.2.1, .int ym.2.2.1, .int ym.2.2.2])), (ob, .inl (cZ, 5200, .inl bm.1)), (ok, .inl (cK, 600, .inl km.1))] → va_S A s.heap H locs → ∀ (ls : Array Slot), lv_has ls 3 [(0, .ref om), (1, .int p0), (2, .int pl)] → W p l e (headSpec (Cond.code yX3_putBit cX3_putBit 3 (some .int) :: G) ({ frames := 3, cells := 0, slots := 0, locals := 66 } : Room)).room s m args below meth c H locs 0 0 (MQ below (va_Qi (fun (r : Int32) (u : Bm) => (r, u) = z) (fun (u : Bm) (t : State) => va_P (dC, dI) vwCl [(om, .inr (3, [.int th, .int st, .int lo, .ref ob, .int u.2.1, .int u.2.2.1, .int u.2.2.2.1, .int u.2.2.2.2, .ref ok, .int km.2, .int qm.1, .int qm.2.1, .int qm.2.2.1, .int qm.2.2.2, .int bd, .int ym.1, .int ym.2.1, .int ym.2.2.1, .int ym.2.2.2])), (ob, .inl (cZ, 5200, .inl u.1)), (ok, .inl (cK, 600, .inl km.1))] t.heap ∧ va_D A [(om, .inr (3, [.int th, .int st, .int lo, .ref ob, .int u.2.1, .int u.2.2.1, .int u.2.2.2.1, .int u.2.2.2.2, .ref ok, .int km.2, .int qm.1, .int qm.2.1, .int qm.2.2.1, .int qm.2.2.2, .int bd, .int ym.1, .int ym.2.1, .int ym.2.2.1, .int ym.2.2.2])), (ob, .inl (cZ, 5200, .inl u.1)), (ok, .inl (cK, 600, .inl km.1))]) A) args s 0 0 A) (F0 m 84 ls []) := by
  intro th bm km qm bd ym p0 pl hW hz H locs hP hD hS ls hl
  refine lv_aload_n hx hb dX3_putBit_84 rfl (lv_at hl 0 rfl) ?_
  refine lv_iload_n hx hb dX3_putBit_85 rfl (lv_at hl 1 rfl) ?_
  refine lv_if_eq (tgt := 98) hx hb dX3_putBit_86 (by decide) (fun c_86 => ?_) (fun c_86 => ?_)
  · refine lv_iconst (v := 0) hx hb dX3_putBit_98 (by decide) ?_
    refine va_put (D := (dC, dI)) (ci := 3) (v := .int 0) (ty := .int) (C := RX3) (T := TX3) (N := 19) hx hb hts inGX3 tyX3 tyX3_ok nmX3 hown hK hP hD hS 0 rfl rfl 6 (by decide) (hts _ wd443) (fun _ h9 => h9) rfl (by decide +kernel) rfl rfl (Nat.le_of_ble_eq_true rfl) dX3_putBit_99 (fun H locs hP hD hS => ?_)
    have hP : va_P (dC, dI) vwCl [(om, .inr (3, [.int th, .int st, .int lo, .ref ob, .int bm.2.1, .int bm.2.2.1, .int 0, .int bm.2.2.2.2, .ref ok, .int km.2, .int qm.1, .int qm.2.1, .int qm.2.2.1, .int qm.2.2.2, .int bd, .int ym.1, .int ym.2.1, .int ym.2.2.1, .int ym.2.2.2])), (ob, .inl (cZ, 5200, .inl bm.1)), (ok, .inl (cK, 600, .inl km.1))] H := hP
    have hD : va_D A [(om, .inr (3, [.int th, .int st, .int lo, .ref ob, .int bm.2.1, .int bm.2.2.1, .int 0, .int bm.2.2.2.2, .ref ok, .int km.2, .int qm.1, .int qm.2.1, .int qm.2.2.1, .int qm.2.2.2, .int bd, .int ym.1, .int ym.2.1, .int ym.2.2.1, .int ym.2.2.2])), (ob, .inl (cZ, 5200, .inl bm.1)), (ok, .inl (cK, 600, .inl km.1))] := hD
    exact kX3_putBit_102 hx hb hr hml hown hts hlocks hA hZ hK  th (bm.1, bm.2.1, bm.2.2.1, 0, bm.2.2.2.2) km qm bd ym p0 pl hW ((plX3_putBit_l84_0 st lo th bm km qm bd ym p0 pl c_86).trans hz) _ _ (hP.sub (ws' := [(om, .inr (3, [.int th, .int st, .int lo, .ref ob, .int ((bm.1, bm.2.1, bm.2.2.1, 0, bm.2.2.2.2).2.1), .int ((bm.1, bm.2.1, bm.2.2.1, 0, bm.2.2.2.2).2.2.1), .int ((bm.1, bm.2.1, bm.2.2.1, 0, bm.2.2.2.2).2.2.2.1), .int ((bm.1, bm.2.1, bm.2.2.1, 0, bm.2.2.2.2).2.2.2.2), .ref ok, .int km.2, .int qm.1, .int qm.2.1, .int qm.2.2.1, .int qm.2.2.2, .int bd, .int ym.1, .int ym.2.1, .int ym.2.2.1, .int ym.2.2.2])), (ob, .inl (cZ, 5200, .inl ((bm.1, bm.2.1, bm.2.2.1, 0, bm.2.2.2.2).1))), (ok, .inl (cK, 600, .inl km.1))]) [0, 1, 2] rfl) (hD.sub (ws' := [(om, .inr (3, [.int th, .int st, .int lo, .ref ob, .int ((bm.1, bm.2.1, bm.2.2.1, 0, bm.2.2.2.2).2.1), .int ((bm.1, bm.2.1, bm.2.2.1, 0, bm.2.2.2.2).2.2.1), .int ((bm.1, bm.2.1, bm.2.2.1, 0, bm.2.2.2.2).2.2.2.1), .int ((bm.1, bm.2.1, bm.2.2.1, 0, bm.2.2.2.2).2.2.2.2), .ref ok, .int km.2, .int qm.1, .int qm.2.1, .int qm.2.2.1, .int qm.2.2.2, .int bd, .int ym.1, .int ym.2.1, .int ym.2.2.1, .int ym.2.2.2])), (ob, .inl (cZ, 5200, .inl ((bm.1, bm.2.1, bm.2.2.1, 0, bm.2.2.2.2).1))), (ok, .inl (cK, 600, .inl km.1))]) [0, 1, 2] (by decide) rfl) hS ls (lv_sub hl [0, 1, 2] rfl)
  · refine lv_aload_n hx hb dX3_putBit_89 rfl (lv_at hl 0 rfl) ?_
    refine va_get (D := (dC, dI)) (ci := 3) (v := .int bm.2.2.2.1) (C := RX3) (T := TX3) (N := 19) hx hb hts inGX3 hown hK hP 0 rfl rfl 6 (by decide) (hts _ wd443) (fun _ h9 => h9) rfl dX3_putBit_90 ?_
    refine lv_iconst (v := 1) hx hb dX3_putBit_93 (by decide) ?_
    refine lv_iadd hx hb dX3_putBit_94 ?_
    refine lv_goto (tgt := 99) hx hb dX3_putBit_95 (by decide) ?_
    refine lv_topi (fun f_1 ef_1 => ?_)
    refine va_put (D := (dC, dI)) (ci := 3) (v := .int f_1) (ty := .int) (C := RX3) (T := TX3) (N := 19) hx hb hts inGX3 tyX3 tyX3_ok nmX3 hown hK hP hD hS 0 rfl rfl 6 (by decide) (hts _ wd443) (fun _ h9 => h9) rfl (by decide +kernel) rfl rfl (Nat.le_of_ble_eq_true rfl) dX3_putBit_99 (fun H locs hP hD hS => ?_)
    have hP : va_P (dC, dI) vwCl [(om, .inr (3, [.int th, .int st, .int lo, .ref ob, .int bm.2.1, .int bm.2.2.1, .int f_1, .int bm.2.2.2.2, .ref ok, .int km.2, .int qm.1, .int qm.2.1, .int qm.2.2.1, .int qm.2.2.2, .int bd, .int ym.1, .int ym.2.1, .int ym.2.2.1, .int ym.2.2.2])), (ob, .inl (cZ, 5200, .inl bm.1)), (ok, .inl (cK, 600, .inl km.1))] H := hP
    have hD : va_D A [(om, .inr (3, [.int th, .int st, .int lo, .ref ob, .int bm.2.1, .int bm.2.2.1, .int f_1, .int bm.2.2.2.2, .ref ok, .int km.2, .int qm.1, .int qm.2.1, .int qm.2.2.1, .int qm.2.2.2, .int bd, .int ym.1, .int ym.2.1, .int ym.2.2.1, .int ym.2.2.2])), (ob, .inl (cZ, 5200, .inl bm.1)), (ok, .inl (cK, 600, .inl km.1))] := hD
    exact kX3_putBit_102 hx hb hr hml hown hts hlocks hA hZ hK  th (bm.1, bm.2.1, bm.2.2.1, f_1, bm.2.2.2.2) km qm bd ym p0 pl hW ((plX3_putBit_l84_1 st lo th bm km qm bd ym p0 pl c_86 _ ef_1).trans hz) _ _ (hP.sub (ws' := [(om, .inr (3, [.int th, .int st, .int lo, .ref ob, .int ((bm.1, bm.2.1, bm.2.2.1, f_1, bm.2.2.2.2).2.1), .int ((bm.1, bm.2.1, bm.2.2.1, f_1, bm.2.2.2.2).2.2.1), .int ((bm.1, bm.2.1, bm.2.2.1, f_1, bm.2.2.2.2).2.2.2.1), .int ((bm.1, bm.2.1, bm.2.2.1, f_1, bm.2.2.2.2).2.2.2.2), .ref ok, .int km.2, .int qm.1, .int qm.2.1, .int qm.2.2.1, .int qm.2.2.2, .int bd, .int ym.1, .int ym.2.1, .int ym.2.2.1, .int ym.2.2.2])), (ob, .inl (cZ, 5200, .inl ((bm.1, bm.2.1, bm.2.2.1, f_1, bm.2.2.2.2).1))), (ok, .inl (cK, 600, .inl km.1))]) [0, 1, 2] rfl) (hD.sub (ws' := [(om, .inr (3, [.int th, .int st, .int lo, .ref ob, .int ((bm.1, bm.2.1, bm.2.2.1, f_1, bm.2.2.2.2).2.1), .int ((bm.1, bm.2.1, bm.2.2.1, f_1, bm.2.2.2.2).2.2.1), .int ((bm.1, bm.2.1, bm.2.2.1, f_1, bm.2.2.2.2).2.2.2.1), .int ((bm.1, bm.2.1, bm.2.2.1, f_1, bm.2.2.2.2).2.2.2.2), .ref ok, .int km.2, .int qm.1, .int qm.2.1, .int qm.2.2.1, .int qm.2.2.2, .int bd, .int ym.1, .int ym.2.1, .int ym.2.2.1, .int ym.2.2.2])), (ob, .inl (cZ, 5200, .inl ((bm.1, bm.2.1, bm.2.2.1, f_1, bm.2.2.2.2).1))), (ok, .inl (cK, 600, .inl km.1))]) [0, 1, 2] (by decide) rfl) hS ls (lv_sub hl [0, 1, 2] rfl)
set_option maxHeartbeats 4000000 in
set_option maxRecDepth 100000 in
theorem kX3_putBit_36 {p : Program} {l : Launch} {e : Env} {s : State} {m : MethodId} {args : Array Value} {below : List Frame} {meth : Method} {c : Code} {dC : Nat → ClassId} {dI : Nat → Nat → Nat} {cZ cK : ClassId} {om ob ok : Nat} {st : Int32} {lo : Int32} {z : Int32 × Bm} {A : Nat → Prop} (hx : p.tables.exec = Jvm.exec) (hb : c.code = cX3_putBit) (hr : meth.sig.returnType = (some .int)) (hml : c.maxLocals = 3) (hown : s.vm.findClass RX3 = some m.cls) (hts : ∀ w ∈ G, w.before args s = true) (hlocks : meth.locks = false) (hA : ∀ q : Nat, s.heap.size ≤ q → A q) (hZ : zOk s) (hK : va_K (dC, dI) vwCl [(cZ, .boolean), (cK, .int)] s) : ∀ (th : Int32) (bm : Bm) (km : Rw) (qm : Tk) (bd : Int32) (ym : Tk) (p0 : Int32), (wok bm 3) → LX3_putBit_36 st lo th bm km qm bd ym p0 = z → ∀ (H : Heap) (locs : List Loc), va_P (dC, dI) vwCl [(om, .inr (3, [.int th, .int st, .int lo, .ref ob, .int bm.2.1, .int bm.2.2.1, .int bm.2.2.2.1, .int bm.2.2.2.2, .ref ok, .int km.2, .int qm.1, .int qm.2.1, .int qm.2.2.1, .int qm.2.2.2, .int bd, .int ym.1, .int ym.2.1, .int ym.2.2.1, .int ym.2.2.2])), (ob, .inl (cZ, 5200, .inl bm.1)), (ok, .inl (cK, 600, .inl km.1))] H → va_D A [(om, .inr (3, [.int th, .int st, .int lo, .ref ob, .int bm.2.1, .int bm.2.2.1, .int bm.2.2.2.1, .int bm.2.2.2.2, .ref ok, .int km.2, .int qm.1, .int qm.2.1, .int qm.2.2.1, .int qm.2.2.2, .int bd, .int ym.1, .int ym.2.1, .int ym.2.2.1, .int ym.2.2.2])), (ob, .inl (cZ, 5200, .inl bm.1)), (ok, .inl (cK, 600, .inl km.1))] → va_S A s.heap H locs → ∀ (ls : Array Slot), lv_has ls 3 [(0, .ref om), (1, .int p0)] → W p l e (headSpec (Cond.code yX3_putBit cX3_putBit 3 (some .int) :: G) ({ frames := 3, cells := 0, slots := 0, locals := 66 } : Room)).room s m args below meth c H locs 0 0 (MQ below (va_Qi (fun (r : Int32) (u : Bm) => (r, u) = z) (fun (u : Bm) (t : State) => va_P (dC, dI) vwCl [(om, .inr (3, [.int th, .int st, .int lo, .ref ob, .int u.2.1, .int u.2.2.1, .int u.2.2.2.1, .int u.2.2.2.2, .ref ok, .int km.2, .int qm.1, .int qm.2.1, .int qm.2.2.1, .int qm.2.2.2, .int bd, .int ym.1, .int ym.2.1, .int ym.2.2.1, .int ym.2.2.2])), (ob, .inl (cZ, 5200, .inl u.1)), (ok, .inl (cK, 600, .inl km.1))] t.heap ∧ va_D A [(om, .inr (3, [.int th, .int st, .int lo, .ref ob, .int u.2.1, .int u.2.2.1, .int u.2.2.2.1, .int u.2.2.2.2, .ref ok, .int km.2, .int qm.1, .int qm.2.1, .int qm.2.2.1, .int qm.2.2.2, .int bd, .int ym.1, .int ym.2.1, .int ym.2.2.1, .int ym.2.2.2])), (ob, .inl (cZ, 5200, .inl u.1)), (ok, .inl (cK, 600, .inl km.1))]) A) args s 0 0 A) (F0 m 36 ls []) := by
  intro th bm km qm bd ym p0 hW hz H locs hP hD hS ls hl
  refine lv_aload_n hx hb dX3_putBit_36 rfl (lv_at hl 0 rfl) ?_
  refine va_get (D := (dC, dI)) (ci := 3) (v := .int bm.2.1) (C := RX3) (T := TX3) (N := 19) hx hb hts inGX3 hown hK hP 0 rfl rfl 4 (by decide) (hts _ wd441) (fun _ h9 => h9) rfl dX3_putBit_37 ?_
  refine lv_istore_n (lv' := [(2, .int bm.2.1), (0, .ref om), (1, .int p0)]) hx hb dX3_putBit_40 rfl hl (by decide) rfl (fun ls hl => ?_)
  refine lv_aload_n hx hb dX3_putBit_41 rfl (lv_at hl 1 rfl) ?_
  refine lv_iload_n hx hb dX3_putBit_42 rfl (lv_at hl 2 rfl) ?_
  have hPc := hP.sub (ws' := [(om, .inr (3, [.int th, .int st, .int lo, .ref ob, .int bm.2.1, .int bm.2.2.1, .int bm.2.2.2.1, .int bm.2.2.2.2, .ref ok, .int km.2, .int qm.1, .int qm.2.1, .int qm.2.2.1, .int qm.2.2.2, .int bd, .int ym.1, .int ym.2.1, .int ym.2.2.1, .int ym.2.2.2])), (ob, .inl (cZ, 5200, .inl bm.1)), (ok, .inl (cK, 600, .inl km.1))]) [0, 1, 2] rfl
  have hKc := hK.sub (tys' := [(cZ, .boolean), (cK, .int)]) [0, 1] rfl
  have hDc := hD.sub (ws' := [(om, .inr (3, [.int th, .int st, .int lo, .ref ob, .int bm.2.1, .int bm.2.2.1, .int bm.2.2.2.1, .int bm.2.2.2.2, .ref ok, .int km.2, .int qm.1, .int qm.2.1, .int qm.2.2.1, .int qm.2.2.2, .int bd, .int ym.1, .int ym.2.1, .int ym.2.2.1, .int ym.2.2.2])), (ob, .inl (cZ, 5200, .inl bm.1)), (ok, .inl (cK, 600, .inl km.1))]) [0, 1, 2] (by decide) rfl
  have hFc := va_free (wc := [(om, .inr (3, [.int th, .int st, .int lo, .ref ob, .int bm.2.1, .int bm.2.2.1, .int bm.2.2.2.1, .int bm.2.2.2.2, .ref ok, .int km.2, .int qm.1, .int qm.2.1, .int qm.2.2.1, .int qm.2.2.2, .int bd, .int ym.1, .int ym.2.1, .int ym.2.2.1, .int ym.2.2.2])), (ob, .inl (cZ, 5200, .inl bm.1)), (ok, .inl (cK, 600, .inl km.1))]) hD hS hA [0, 1, 2] rfl
  refine va_callv (va_runV (As := [.int p0]) (rest := []) ⟨hx, hb, hml, hown, hts⟩ (mX3_add l dC dI cZ cK om ob ok H.size st lo th bm km qm bd ym p0 (wok_mono hW (by decide))) (cwV 1 hts (gV wd517 wd518 wd14 wd30 wd519) rfl rfl rfl (by decide +kernel) ⟨Nat.le_of_ble_eq_true rfl, Nat.le_of_ble_eq_true rfl⟩) ⟨fb_rw, va_recv hKc hPc (ci := 3) (q0 := 0) rfl rfl, pre_rw hPc hKc hDc hZ⟩ rfl rfl hl.1 rfl (lv_room (Nat.le_of_ble_eq_true rfl)) dX3_putBit_43 ⟨Nat.le_of_ble_eq_true rfl, Nat.le_of_ble_eq_true rfl⟩) hS (fun q _ h => hFc q h) hFc (fun u_2 t H1 locs ht hvm hw_1 hB hz1 hk1 hS => ?_)
  obtain ⟨hP1, hD1⟩ := hB
  rw [ht] at hP1
  obtain ⟨hP, hD⟩ := va_join (wr := []) (w1 := [(om, .inr (3, [.int th, .int st, .int lo, .ref ob, .int u_2.2.1, .int u_2.2.2.1, .int u_2.2.2.2.1, .int u_2.2.2.2.2, .ref ok, .int km.2, .int qm.1, .int qm.2.1, .int qm.2.2.1, .int qm.2.2.2, .int bd, .int ym.1, .int ym.2.1, .int ym.2.2.1, .int ym.2.2.2])), (ob, .inl (cZ, 5200, .inl u_2.1)), (ok, .inl (cK, 600, .inl km.1))]) hP hD [0, 1, 2] [] rfl rfl (by decide) (by decide) hk1 hFc hP1 hD1
  generalize H1 = H at hP hS ⊢
  have hP : va_P (dC, dI) vwCl [(om, .inr (3, [.int th, .int st, .int lo, .ref ob, .int u_2.2.1, .int u_2.2.2.1, .int u_2.2.2.2.1, .int u_2.2.2.2.2, .ref ok, .int km.2, .int qm.1, .int qm.2.1, .int qm.2.2.1, .int qm.2.2.2, .int bd, .int ym.1, .int ym.2.1, .int ym.2.2.1, .int ym.2.2.2])), (ob, .inl (cZ, 5200, .inl u_2.1)), (ok, .inl (cK, 600, .inl km.1))] H := hP
  have hD : va_D A [(om, .inr (3, [.int th, .int st, .int lo, .ref ob, .int u_2.2.1, .int u_2.2.2.1, .int u_2.2.2.2.1, .int u_2.2.2.2.2, .ref ok, .int km.2, .int qm.1, .int qm.2.1, .int qm.2.2.1, .int qm.2.2.2, .int bd, .int ym.1, .int ym.2.1, .int ym.2.2.1, .int ym.2.2.2])), (ob, .inl (cZ, 5200, .inl u_2.1)), (ok, .inl (cK, 600, .inl km.1))] := hD
  refine lv_aload_n hx hb dX3_putBit_46 rfl (lv_at hl 1 rfl) ?_
  refine va_get (D := (dC, dI)) (ci := 3) (v := .int st) (C := RX3) (T := TX3) (N := 19) hx hb hts inGX3 hown hK hP 0 rfl rfl 1 (by decide) (hts _ wd438) (fun _ h9 => h9) rfl dX3_putBit_47 ?_
  refine lv_iconst (v := 1) hx hb dX3_putBit_50 (by decide) ?_
  refine lv_icmp_ne (tgt := 84) hx hb dX3_putBit_51 (by decide) (fun c_51 => ?_) (fun c_51 => ?_)
  · exact kX3_putBit_84 hx hb hr hml hown hts hlocks hA hZ hK  th u_2 km qm bd ym p0 bm.2.1 (by first | exact wok_mono (wok_add (k := 2) hW (by assumption)) (by decide) | exact wok_stuff (wok_add (k := 2) hW (by assumption)) (by assumption)) ((plX3_putBit_l36_0 st lo th bm km qm bd ym p0 _ hw_1 c_51).trans hz) _ _ (hP.sub (ws' := [(om, .inr (3, [.int th, .int st, .int lo, .ref ob, .int u_2.2.1, .int u_2.2.2.1, .int u_2.2.2.2.1, .int u_2.2.2.2.2, .ref ok, .int km.2, .int qm.1, .int qm.2.1, .int qm.2.2.1, .int qm.2.2.2, .int bd, .int ym.1, .int ym.2.1, .int ym.2.2.1, .int ym.2.2.2])), (ob, .inl (cZ, 5200, .inl u_2.1)), (ok, .inl (cK, 600, .inl km.1))]) [0, 1, 2] rfl) (hD.sub (ws' := [(om, .inr (3, [.int th, .int st, .int lo, .ref ob, .int u_2.2.1, .int u_2.2.2.1, .int u_2.2.2.2.1, .int u_2.2.2.2.2, .ref ok, .int km.2, .int qm.1, .int qm.2.1, .int qm.2.2.1, .int qm.2.2.2, .int bd, .int ym.1, .int ym.2.1, .int ym.2.2.1, .int ym.2.2.2])), (ob, .inl (cZ, 5200, .inl u_2.1)), (ok, .inl (cK, 600, .inl km.1))]) [0, 1, 2] (by decide) rfl) hS ls (lv_sub hl [1, 2, 0] rfl)
  · refine lv_aload_n hx hb dX3_putBit_54 rfl (lv_at hl 1 rfl) ?_
    refine va_get (D := (dC, dI)) (ci := 3) (v := .int lo) (C := RX3) (T := TX3) (N := 19) hx hb hts inGX3 hown hK hP 0 rfl rfl 2 (by decide) (hts _ wd439) (fun _ h9 => h9) rfl dX3_putBit_55 ?_
    refine lv_if_eq (tgt := 84) hx hb dX3_putBit_58 (by decide) (fun c_58 => ?_) (fun c_58 => ?_)
    · exact kX3_putBit_84 hx hb hr hml hown hts hlocks hA hZ hK  th u_2 km qm bd ym p0 bm.2.1 (by first | exact wok_mono (wok_add (k := 2) hW (by assumption)) (by decide) | exact wok_stuff (wok_add (k := 2) hW (by assumption)) (by assumption)) ((plX3_putBit_l36_1 st lo th bm km qm bd ym p0 _ hw_1 c_51 c_58).trans hz) _ _ (hP.sub (ws' := [(om, .inr (3, [.int th, .int st, .int lo, .ref ob, .int u_2.2.1, .int u_2.2.2.1, .int u_2.2.2.2.1, .int u_2.2.2.2.2, .ref ok, .int km.2, .int qm.1, .int qm.2.1, .int qm.2.2.1, .int qm.2.2.2, .int bd, .int ym.1, .int ym.2.1, .int ym.2.2.1, .int ym.2.2.2])), (ob, .inl (cZ, 5200, .inl u_2.1)), (ok, .inl (cK, 600, .inl km.1))]) [0, 1, 2] rfl) (hD.sub (ws' := [(om, .inr (3, [.int th, .int st, .int lo, .ref ob, .int u_2.2.1, .int u_2.2.2.1, .int u_2.2.2.2.1, .int u_2.2.2.2.2, .ref ok, .int km.2, .int qm.1, .int qm.2.1, .int qm.2.2.1, .int qm.2.2.2, .int bd, .int ym.1, .int ym.2.1, .int ym.2.2.1, .int ym.2.2.2])), (ob, .inl (cZ, 5200, .inl u_2.1)), (ok, .inl (cK, 600, .inl km.1))]) [0, 1, 2] (by decide) rfl) hS ls (lv_sub hl [1, 2, 0] rfl)
    · refine lv_aload_n hx hb dX3_putBit_61 rfl (lv_at hl 1 rfl) ?_
      refine va_get (D := (dC, dI)) (ci := 3) (v := .int u_2.2.2.2.2) (C := RX3) (T := TX3) (N := 19) hx hb hts inGX3 hown hK hP 0 rfl rfl 7 (by decide) (hts _ wd444) (fun _ h9 => h9) rfl dX3_putBit_62 ?_
      refine lv_if_eq (tgt := 84) hx hb dX3_putBit_65 (by decide) (fun c_65 => ?_) (fun c_65 => ?_)
      · exact kX3_putBit_84 hx hb hr hml hown hts hlocks hA hZ hK  th u_2 km qm bd ym p0 bm.2.1 (by first | exact wok_mono (wok_add (k := 2) hW (by assumption)) (by decide) | exact wok_stuff (wok_add (k := 2) hW (by assumption)) (by assumption)) ((plX3_putBit_l36_2 st lo th bm km qm bd ym p0 _ hw_1 c_51 c_58 c_65).trans hz) _ _ (hP.sub (ws' := [(om, .inr (3, [.int th, .int st, .int lo, .ref ob, .int u_2.2.1, .int u_2.2.2.1, .int u_2.2.2.2.1, .int u_2.2.2.2.2, .ref ok, .int km.2, .int qm.1, .int qm.2.1, .int qm.2.2.1, .int qm.2.2.2, .int bd, .int ym.1, .int ym.2.1, .int ym.2.2.1, .int ym.2.2.2])), (ob, .inl (cZ, 5200, .inl u_2.1)), (ok, .inl (cK, 600, .inl km.1))]) [0, 1, 2] rfl) (hD.sub (ws' := [(om, .inr (3, [.int th, .int st, .int lo, .ref ob, .int u_2.2.1, .int u_2.2.2.1, .int u_2.2.2.2.1, .int u_2.2.2.2.2, .ref ok, .int km.2, .int qm.1, .int qm.2.1, .int qm.2.2.1, .int qm.2.2.2, .int bd, .int ym.1, .int ym.2.1, .int ym.2.2.1, .int ym.2.2.2])), (ob, .inl (cZ, 5200, .inl u_2.1)), (ok, .inl (cK, 600, .inl km.1))]) [0, 1, 2] (by decide) rfl) hS ls (lv_sub hl [1, 2, 0] rfl)
      · refine lv_aload_n hx hb dX3_putBit_68 rfl (lv_at hl 1 rfl) ?_
        refine va_get (D := (dC, dI)) (ci := 3) (v := .int u_2.2.1) (C := RX3) (T := TX3) (N := 19) hx hb hts inGX3 hown hK hP 0 rfl rfl 4 (by decide) (hts _ wd441) (fun _ h9 => h9) rfl dX3_putBit_69 ?_
        refine lv_bipush (v := 8) hx hb dX3_putBit_72 (by decide) ?_
        refine lv_irem hx hb dX3_putBit_74 (by decide) ?_
        refine lv_bipush (v := 7) hx hb dX3_putBit_75 (by decide) ?_
        refine lv_icmp_ne (tgt := 84) hx hb dX3_putBit_77 (by decide) (fun c_77 => ?_) (fun c_77 => ?_)
        · exact kX3_putBit_84 hx hb hr hml hown hts hlocks hA hZ hK  th u_2 km qm bd ym p0 bm.2.1 (by first | exact wok_mono (wok_add (k := 2) hW (by assumption)) (by decide) | exact wok_stuff (wok_add (k := 2) hW (by assumption)) (by assumption)) ((plX3_putBit_l36_3 st lo th bm km qm bd ym p0 _ hw_1 c_51 c_58 c_65 c_77).trans hz) _ _ (hP.sub (ws' := [(om, .inr (3, [.int th, .int st, .int lo, .ref ob, .int u_2.2.1, .int u_2.2.2.1, .int u_2.2.2.2.1, .int u_2.2.2.2.2, .ref ok, .int km.2, .int qm.1, .int qm.2.1, .int qm.2.2.1, .int qm.2.2.2, .int bd, .int ym.1, .int ym.2.1, .int ym.2.2.1, .int ym.2.2.2])), (ob, .inl (cZ, 5200, .inl u_2.1)), (ok, .inl (cK, 600, .inl km.1))]) [0, 1, 2] rfl) (hD.sub (ws' := [(om, .inr (3, [.int th, .int st, .int lo, .ref ob, .int u_2.2.1, .int u_2.2.2.1, .int u_2.2.2.2.1, .int u_2.2.2.2.2, .ref ok, .int km.2, .int qm.1, .int qm.2.1, .int qm.2.2.1, .int qm.2.2.2, .int bd, .int ym.1, .int ym.2.1, .int ym.2.2.1, .int ym.2.2.2])), (ob, .inl (cZ, 5200, .inl u_2.1)), (ok, .inl (cK, 600, .inl km.1))]) [0, 1, 2] (by decide) rfl) hS ls (lv_sub hl [1, 2, 0] rfl)
        · refine lv_aload_n hx hb dX3_putBit_80 rfl (lv_at hl 1 rfl) ?_
          have hPc := hP.sub (ws' := [(om, .inr (3, [.int th, .int st, .int lo, .ref ob, .int u_2.2.1, .int u_2.2.2.1, .int u_2.2.2.2.1, .int u_2.2.2.2.2, .ref ok, .int km.2, .int qm.1, .int qm.2.1, .int qm.2.2.1, .int qm.2.2.2, .int bd, .int ym.1, .int ym.2.1, .int ym.2.2.1, .int ym.2.2.2])), (ob, .inl (cZ, 5200, .inl u_2.1)), (ok, .inl (cK, 600, .inl km.1))]) [0, 1, 2] rfl
          have hKc := hK.sub (tys' := [(cZ, .boolean), (cK, .int)]) [0, 1] rfl
          have hDc := hD.sub (ws' := [(om, .inr (3, [.int th, .int st, .int lo, .ref ob, .int u_2.2.1, .int u_2.2.2.1, .int u_2.2.2.2.1, .int u_2.2.2.2.2, .ref ok, .int km.2, .int qm.1, .int qm.2.1, .int qm.2.2.1, .int qm.2.2.2, .int bd, .int ym.1, .int ym.2.1, .int ym.2.2.1, .int ym.2.2.2])), (ob, .inl (cZ, 5200, .inl u_2.1)), (ok, .inl (cK, 600, .inl km.1))]) [0, 1, 2] (by decide) rfl
          have hFc := va_free (wc := [(om, .inr (3, [.int th, .int st, .int lo, .ref ob, .int u_2.2.1, .int u_2.2.2.1, .int u_2.2.2.2.1, .int u_2.2.2.2.2, .ref ok, .int km.2, .int qm.1, .int qm.2.1, .int qm.2.2.1, .int qm.2.2.2, .int bd, .int ym.1, .int ym.2.1, .int ym.2.2.1, .int ym.2.2.2])), (ob, .inl (cZ, 5200, .inl u_2.1)), (ok, .inl (cK, 600, .inl km.1))]) hD hS hA [0, 1, 2] rfl
          refine va_callv (va_runV (As := []) (rest := []) ⟨hx, hb, hml, hown, hts⟩ (mX3_stuff l dC dI cZ cK om ob ok H.size st lo th u_2 km qm bd ym (wok_mono (wok_add (k := 2) hW (by assumption)) (by decide))) (cwV 0 hts (gV wd514 wd515 wd13 wd30 wd516) rfl rfl rfl (by decide +kernel) ⟨Nat.le_of_ble_eq_true rfl, Nat.le_of_ble_eq_true rfl⟩) ⟨fb_rw, va_recv hKc hPc (ci := 3) (q0 := 0) rfl rfl, pre_rw hPc hKc hDc hZ⟩ rfl rfl hl.1 rfl (lv_room (Nat.le_of_ble_eq_true rfl)) dX3_putBit_81 ⟨Nat.le_of_ble_eq_true rfl, Nat.le_of_ble_eq_true rfl⟩) hS (fun q _ h => hFc q h) hFc (fun u_4 t H1 locs ht hvm hw_3 hB hz1 hk1 hS => ?_)
          obtain ⟨hP1, hD1⟩ := hB
          rw [ht] at hP1
          obtain ⟨hP, hD⟩ := va_join (wr := []) (w1 := [(om, .inr (3, [.int th, .int st, .int lo, .ref ob, .int u_4.2.1, .int u_4.2.2.1, .int u_4.2.2.2.1, .int u_4.2.2.2.2, .ref ok, .int km.2, .int qm.1, .int qm.2.1, .int qm.2.2.1, .int qm.2.2.2, .int bd, .int ym.1, .int ym.2.1, .int ym.2.2.1, .int ym.2.2.2])), (ob, .inl (cZ, 5200, .inl u_4.1)), (ok, .inl (cK, 600, .inl km.1))]) hP hD [0, 1, 2] [] rfl rfl (by decide) (by decide) hk1 hFc hP1 hD1
          generalize H1 = H at hP hS ⊢
          have hP : va_P (dC, dI) vwCl [(om, .inr (3, [.int th, .int st, .int lo, .ref ob, .int u_4.2.1, .int u_4.2.2.1, .int u_4.2.2.2.1, .int u_4.2.2.2.2, .ref ok, .int km.2, .int qm.1, .int qm.2.1, .int qm.2.2.1, .int qm.2.2.2, .int bd, .int ym.1, .int ym.2.1, .int ym.2.2.1, .int ym.2.2.2])), (ob, .inl (cZ, 5200, .inl u_4.1)), (ok, .inl (cK, 600, .inl km.1))] H := hP
          have hD : va_D A [(om, .inr (3, [.int th, .int st, .int lo, .ref ob, .int u_4.2.1, .int u_4.2.2.1, .int u_4.2.2.2.1, .int u_4.2.2.2.2, .ref ok, .int km.2, .int qm.1, .int qm.2.1, .int qm.2.2.1, .int qm.2.2.2, .int bd, .int ym.1, .int ym.2.1, .int ym.2.2.1, .int ym.2.2.2])), (ob, .inl (cZ, 5200, .inl u_4.1)), (ok, .inl (cK, 600, .inl km.1))] := hD
          exact kX3_putBit_84 hx hb hr hml hown hts hlocks hA hZ hK  th u_4 km qm bd ym p0 bm.2.1 (by first | exact wok_mono (wok_add (k := 2) hW (by assumption)) (by decide) | exact wok_stuff (wok_add (k := 2) hW (by assumption)) (by assumption)) ((plX3_putBit_l36_4 st lo th bm km qm bd ym p0 _ hw_1 c_51 c_58 c_65 c_77 _ hw_3).trans hz) _ _ (hP.sub (ws' := [(om, .inr (3, [.int th, .int st, .int lo, .ref ob, .int u_4.2.1, .int u_4.2.2.1, .int u_4.2.2.2.1, .int u_4.2.2.2.2, .ref ok, .int km.2, .int qm.1, .int qm.2.1, .int qm.2.2.1, .int qm.2.2.2, .int bd, .int ym.1, .int ym.2.1, .int ym.2.2.1, .int ym.2.2.2])), (ob, .inl (cZ, 5200, .inl u_4.1)), (ok, .inl (cK, 600, .inl km.1))]) [0, 1, 2] rfl) (hD.sub (ws' := [(om, .inr (3, [.int th, .int st, .int lo, .ref ob, .int u_4.2.1, .int u_4.2.2.1, .int u_4.2.2.2.1, .int u_4.2.2.2.2, .ref ok, .int km.2, .int qm.1, .int qm.2.1, .int qm.2.2.1, .int qm.2.2.2, .int bd, .int ym.1, .int ym.2.1, .int ym.2.2.1, .int ym.2.2.2])), (ob, .inl (cZ, 5200, .inl u_4.1)), (ok, .inl (cK, 600, .inl km.1))]) [0, 1, 2] (by decide) rfl) hS ls (lv_sub hl [1, 2, 0] rfl)
set_option maxHeartbeats 4000000 in
set_option maxRecDepth 100000 in
theorem mX3_putBit (l : Launch) (dC : Nat → ClassId) (dI : Nat → Nat → Nat) (cZ cK : ClassId) (om ob ok : Nat) (sz : Nat) (st : Int32) (lo : Int32) (th : Int32) (bm : Bm) (km : Rw) (qm : Tk) (bd : Int32) (ym : Tk) (p0 : Int32) (hW : wok bm 4) : Met l yX3_putBit (Cond.code yX3_putBit cX3_putBit 3 (some .int) :: G) ({ frames := 3, cells := 0, slots := 0, locals := 66 } : Room) (va_Pc [.ref om, .int p0] (fun U => U.heap.size = sz ∧ va_P (dC, dI) vwCl [(om, .inr (3, [.int th, .int st, .int lo, .ref ob, .int bm.2.1, .int bm.2.2.1, .int bm.2.2.2.1, .int bm.2.2.2.2, .ref ok, .int km.2, .int qm.1, .int qm.2.1, .int qm.2.2.1, .int qm.2.2.2, .int bd, .int ym.1, .int ym.2.1, .int ym.2.2.1, .int ym.2.2.2])), (ob, .inl (cZ, 5200, .inl bm.1)), (ok, .inl (cK, 600, .inl km.1))] U.heap ∧ va_K (dC, dI) vwCl [(cZ, .boolean), (cK, .int)] U ∧ va_D (fun _ => True) [(om, .inr (3, [.int th, .int st, .int lo, .ref ob, .int bm.2.1, .int bm.2.2.1, .int bm.2.2.2.1, .int bm.2.2.2.2, .ref ok, .int km.2, .int qm.1, .int qm.2.1, .int qm.2.2.1, .int qm.2.2.2, .int bd, .int ym.1, .int ym.2.1, .int ym.2.2.1, .int ym.2.2.2])), (ob, .inl (cZ, 5200, .inl bm.1)), (ok, .inl (cK, 600, .inl km.1))] ∧ zOk U)) (va_Qi (fun (r : Int32) (u : Bm) => (r, u) = (FX3_putBit st lo th bm km qm bd ym p0)) (fun (u : Bm) (t : State) => va_P (dC, dI) vwCl [(om, .inr (3, [.int th, .int st, .int lo, .ref ob, .int u.2.1, .int u.2.2.1, .int u.2.2.2.1, .int u.2.2.2.2, .ref ok, .int km.2, .int qm.1, .int qm.2.1, .int qm.2.2.1, .int qm.2.2.2, .int bd, .int ym.1, .int ym.2.1, .int ym.2.2.1, .int ym.2.2.2])), (ob, .inl (cZ, 5200, .inl u.1)), (ok, .inl (cK, 600, .inl km.1))] t.heap ∧ va_D (va_A [(om, .inr (3, [.int th, .int st, .int lo, .ref ob, .int bm.2.1, .int bm.2.2.1, .int bm.2.2.2.1, .int bm.2.2.2.2, .ref ok, .int km.2, .int qm.1, .int qm.2.1, .int qm.2.2.1, .int qm.2.2.2, .int bd, .int ym.1, .int ym.2.1, .int ym.2.2.1, .int ym.2.2.2])), (ob, .inl (cZ, 5200, .inl bm.1)), (ok, .inl (cK, 600, .inl km.1))] sz) [(om, .inr (3, [.int th, .int st, .int lo, .ref ob, .int u.2.1, .int u.2.2.1, .int u.2.2.2.1, .int u.2.2.2.2, .ref ok, .int km.2, .int qm.1, .int qm.2.1, .int qm.2.2.1, .int qm.2.2.2, .int bd, .int ym.1, .int ym.2.1, .int ym.2.2.1, .int ym.2.2.2])), (ob, .inl (cZ, 5200, .inl u.1)), (ok, .inl (cK, 600, .inl km.1))]) (va_A [(om, .inr (3, [.int th, .int st, .int lo, .ref ob, .int bm.2.1, .int bm.2.2.1, .int bm.2.2.2.1, .int bm.2.2.2.2, .ref ok, .int km.2, .int qm.1, .int qm.2.1, .int qm.2.2.1, .int qm.2.2.2, .int bd, .int ym.1, .int ym.2.1, .int ym.2.2.1, .int ym.2.2.2])), (ob, .inl (cZ, 5200, .inl bm.1)), (ok, .inl (cK, 600, .inl km.1))] sz)) 0 0 (va_A [(om, .inr (3, [.int th, .int st, .int lo, .ref ob, .int bm.2.1, .int bm.2.2.1, .int bm.2.2.2.1, .int bm.2.2.2.2, .ref ok, .int km.2, .int qm.1, .int qm.2.1, .int qm.2.2.1, .int qm.2.2.2, .int bd, .int ym.1, .int ym.2.1, .int ym.2.2.1, .int ym.2.2.2])), (ob, .inl (cZ, 5200, .inl bm.1)), (ok, .inl (cK, 600, .inl km.1))] sz) := by
  refine Met.ofW (cc := cX3_putBit) (maxL := 3) (ret := (some .int)) (by decide) rfl ?_
  intro p e s m args below meth c s₁ B hml hv
  obtain ⟨rfl, hsz, hP, hK, hD0, hZ⟩ := hv
  have hx := B.exec
  have hb := B.bytes
  have hr := B.returns
  have hts : ∀ w ∈ G, w.before [.ref om, .int p0].toArray s = true := fun w h => atoms_spec (ws := (Cond.code yX3_putBit cX3_putBit 3 (some .int) :: G)) B.pre w (List.mem_cons_of_mem _ h)
  have hown : s.vm.findClass RX3 = some m.cls := findClass_of_methodNamed B.named
  have hlocks := B.notSynchronized
  subst hsz
  have hD := hD0.self (sz := s.heap.size)
  generalize hAe : va_A [(om, .inr (3, [.int th, .int st, .int lo, .ref ob, .int bm.2.1, .int bm.2.2.1, .int bm.2.2.2.1, .int bm.2.2.2.2, .ref ok, .int km.2, .int qm.1, .int qm.2.1, .int qm.2.2.1, .int qm.2.2.2, .int bd, .int ym.1, .int ym.2.1, .int ym.2.2.1, .int ym.2.2.2])), (ob, .inl (cZ, 5200, .inl bm.1)), (ok, .inl (cK, 600, .inl km.1))] s.heap.size = A at hD ⊢
  have hA : ∀ q : Nat, s.heap.size ≤ q → A q := fun q h => by rw [← hAe]; exact Or.inr h
  have hS : va_S A s.heap s.heap [] := va_S.rf
  have hP : va_P (dC, dI) vwCl [(om, .inr (3, [.int th, .int st, .int lo, .ref ob, .int bm.2.1, .int bm.2.2.1, .int bm.2.2.2.1, .int bm.2.2.2.2, .ref ok, .int km.2, .int qm.1, .int qm.2.1, .int qm.2.2.1, .int qm.2.2.2, .int bd, .int ym.1, .int ym.2.1, .int ym.2.2.1, .int ym.2.2.2])), (ob, .inl (cZ, 5200, .inl bm.1)), (ok, .inl (cK, 600, .inl km.1))] s.heap := hP
  have hl := lv_entry ([.ref om, .int p0]) (n := 3) (Nat.le_of_ble_eq_true rfl)
  rw [lg_entry_eq]
  generalize (lg_sl ([.ref om, .int p0]) ++ List.replicate (3 - (lg_sl ([.ref om, .int p0])).length) Slot.unset).toArray = ls at hl ⊢
  have hl : lv_has ls 3 [(0, .ref om), (1, .int p0)] := hl
  refine lv_aload_n hx hb dX3_putBit_0 rfl (lv_at hl 0 rfl) ?_
  refine va_get (D := (dC, dI)) (ci := 3) (v := .int st) (C := RX3) (T := TX3) (N := 19) hx hb hts inGX3 hown hK hP 0 rfl rfl 1 (by decide) (hts _ wd438) (fun _ h9 => h9) rfl dX3_putBit_1 ?_
  refine lv_iconst (v := 1) hx hb dX3_putBit_4 (by decide) ?_
  refine lv_icmp_ne (tgt := 36) hx hb dX3_putBit_5 (by decide) (fun c_5 => ?_) (fun c_5 => ?_)
  · exact kX3_putBit_36 hx hb hr hml hown hts hlocks hA hZ hK  th bm km qm bd ym p0 (by first | exact wok_mono hW (by decide) | exact wok_stuff hW (by assumption)) (plX3_putBit_0 st lo th bm km qm bd ym p0 c_5) _ _ (hP.sub (ws' := [(om, .inr (3, [.int th, .int st, .int lo, .ref ob, .int bm.2.1, .int bm.2.2.1, .int bm.2.2.2.1, .int bm.2.2.2.2, .ref ok, .int km.2, .int qm.1, .int qm.2.1, .int qm.2.2.1, .int qm.2.2.2, .int bd, .int ym.1, .int ym.2.1, .int ym.2.2.1, .int ym.2.2.2])), (ob, .inl (cZ, 5200, .inl bm.1)), (ok, .inl (cK, 600, .inl km.1))]) [0, 1, 2] rfl) (hD.sub (ws' := [(om, .inr (3, [.int th, .int st, .int lo, .ref ob, .int bm.2.1, .int bm.2.2.1, .int bm.2.2.2.1, .int bm.2.2.2.2, .ref ok, .int km.2, .int qm.1, .int qm.2.1, .int qm.2.2.1, .int qm.2.2.2, .int bd, .int ym.1, .int ym.2.1, .int ym.2.2.1, .int ym.2.2.2])), (ob, .inl (cZ, 5200, .inl bm.1)), (ok, .inl (cK, 600, .inl km.1))]) [0, 1, 2] (by decide) rfl) hS ls (lv_sub hl [0, 1] rfl)
  · refine lv_aload_n hx hb dX3_putBit_8 rfl (lv_at hl 0 rfl) ?_
    refine va_get (D := (dC, dI)) (ci := 3) (v := .int lo) (C := RX3) (T := TX3) (N := 19) hx hb hts inGX3 hown hK hP 0 rfl rfl 2 (by decide) (hts _ wd439) (fun _ h9 => h9) rfl dX3_putBit_9 ?_
    refine lv_if_ne (tgt := 36) hx hb dX3_putBit_12 (by decide) (fun c_12 => ?_) (fun c_12 => ?_)
    · exact kX3_putBit_36 hx hb hr hml hown hts hlocks hA hZ hK  th bm km qm bd ym p0 (by first | exact wok_mono hW (by decide) | exact wok_stuff hW (by assumption)) (plX3_putBit_1 st lo th bm km qm bd ym p0 c_5 c_12) _ _ (hP.sub (ws' := [(om, .inr (3, [.int th, .int st, .int lo, .ref ob, .int bm.2.1, .int bm.2.2.1, .int bm.2.2.2.1, .int bm.2.2.2.2, .ref ok, .int km.2, .int qm.1, .int qm.2.1, .int qm.2.2.1, .int qm.2.2.2, .int bd, .int ym.1, .int ym.2.1, .int ym.2.2.1, .int ym.2.2.2])), (ob, .inl (cZ, 5200, .inl bm.1)), (ok, .inl (cK, 600, .inl km.1))]) [0, 1, 2] rfl) (hD.sub (ws' := [(om, .inr (3, [.int th, .int st, .int lo, .ref ob, .int bm.2.1, .int bm.2.2.1, .int bm.2.2.2.1, .int bm.2.2.2.2, .ref ok, .int km.2, .int qm.1, .int qm.2.1, .int qm.2.2.1, .int qm.2.2.2, .int bd, .int ym.1, .int ym.2.1, .int ym.2.2.1, .int ym.2.2.2])), (ob, .inl (cZ, 5200, .inl bm.1)), (ok, .inl (cK, 600, .inl km.1))]) [0, 1, 2] (by decide) rfl) hS ls (lv_sub hl [0, 1] rfl)
    · refine lv_aload_n hx hb dX3_putBit_15 rfl (lv_at hl 0 rfl) ?_
      refine va_get (D := (dC, dI)) (ci := 3) (v := .int bm.2.2.2.2) (C := RX3) (T := TX3) (N := 19) hx hb hts inGX3 hown hK hP 0 rfl rfl 7 (by decide) (hts _ wd444) (fun _ h9 => h9) rfl dX3_putBit_16 ?_
      refine lv_if_eq (tgt := 36) hx hb dX3_putBit_19 (by decide) (fun c_19 => ?_) (fun c_19 => ?_)
      · exact kX3_putBit_36 hx hb hr hml hown hts hlocks hA hZ hK  th bm km qm bd ym p0 (by first | exact wok_mono hW (by decide) | exact wok_stuff hW (by assumption)) (plX3_putBit_2 st lo th bm km qm bd ym p0 c_5 c_12 c_19) _ _ (hP.sub (ws' := [(om, .inr (3, [.int th, .int st, .int lo, .ref ob, .int bm.2.1, .int bm.2.2.1, .int bm.2.2.2.1, .int bm.2.2.2.2, .ref ok, .int km.2, .int qm.1, .int qm.2.1, .int qm.2.2.1, .int qm.2.2.2, .int bd, .int ym.1, .int ym.2.1, .int ym.2.2.1, .int ym.2.2.2])), (ob, .inl (cZ, 5200, .inl bm.1)), (ok, .inl (cK, 600, .inl km.1))]) [0, 1, 2] rfl) (hD.sub (ws' := [(om, .inr (3, [.int th, .int st, .int lo, .ref ob, .int bm.2.1, .int bm.2.2.1, .int bm.2.2.2.1, .int bm.2.2.2.2, .ref ok, .int km.2, .int qm.1, .int qm.2.1, .int qm.2.2.1, .int qm.2.2.2, .int bd, .int ym.1, .int ym.2.1, .int ym.2.2.1, .int ym.2.2.2])), (ob, .inl (cZ, 5200, .inl bm.1)), (ok, .inl (cK, 600, .inl km.1))]) [0, 1, 2] (by decide) rfl) hS ls (lv_sub hl [0, 1] rfl)
      · refine lv_aload_n hx hb dX3_putBit_22 rfl (lv_at hl 0 rfl) ?_
        refine va_get (D := (dC, dI)) (ci := 3) (v := .int bm.2.1) (C := RX3) (T := TX3) (N := 19) hx hb hts inGX3 hown hK hP 0 rfl rfl 4 (by decide) (hts _ wd441) (fun _ h9 => h9) rfl dX3_putBit_23 ?_
        refine lv_bipush (v := 8) hx hb dX3_putBit_26 (by decide) ?_
        refine lv_irem hx hb dX3_putBit_28 (by decide) ?_
        refine lv_if_ne (tgt := 36) hx hb dX3_putBit_29 (by decide) (fun c_29 => ?_) (fun c_29 => ?_)
        · exact kX3_putBit_36 hx hb hr hml hown hts hlocks hA hZ hK  th bm km qm bd ym p0 (by first | exact wok_mono hW (by decide) | exact wok_stuff hW (by assumption)) (plX3_putBit_3 st lo th bm km qm bd ym p0 c_5 c_12 c_19 c_29) _ _ (hP.sub (ws' := [(om, .inr (3, [.int th, .int st, .int lo, .ref ob, .int bm.2.1, .int bm.2.2.1, .int bm.2.2.2.1, .int bm.2.2.2.2, .ref ok, .int km.2, .int qm.1, .int qm.2.1, .int qm.2.2.1, .int qm.2.2.2, .int bd, .int ym.1, .int ym.2.1, .int ym.2.2.1, .int ym.2.2.2])), (ob, .inl (cZ, 5200, .inl bm.1)), (ok, .inl (cK, 600, .inl km.1))]) [0, 1, 2] rfl) (hD.sub (ws' := [(om, .inr (3, [.int th, .int st, .int lo, .ref ob, .int bm.2.1, .int bm.2.2.1, .int bm.2.2.2.1, .int bm.2.2.2.2, .ref ok, .int km.2, .int qm.1, .int qm.2.1, .int qm.2.2.1, .int qm.2.2.2, .int bd, .int ym.1, .int ym.2.1, .int ym.2.2.1, .int ym.2.2.2])), (ob, .inl (cZ, 5200, .inl bm.1)), (ok, .inl (cK, 600, .inl km.1))]) [0, 1, 2] (by decide) rfl) hS ls (lv_sub hl [0, 1] rfl)
        · refine lv_aload_n hx hb dX3_putBit_32 rfl (lv_at hl 0 rfl) ?_
          have hPc := hP.sub (ws' := [(om, .inr (3, [.int th, .int st, .int lo, .ref ob, .int bm.2.1, .int bm.2.2.1, .int bm.2.2.2.1, .int bm.2.2.2.2, .ref ok, .int km.2, .int qm.1, .int qm.2.1, .int qm.2.2.1, .int qm.2.2.2, .int bd, .int ym.1, .int ym.2.1, .int ym.2.2.1, .int ym.2.2.2])), (ob, .inl (cZ, 5200, .inl bm.1)), (ok, .inl (cK, 600, .inl km.1))]) [0, 1, 2] rfl
          have hKc := hK.sub (tys' := [(cZ, .boolean), (cK, .int)]) [0, 1] rfl
          have hDc := hD.sub (ws' := [(om, .inr (3, [.int th, .int st, .int lo, .ref ob, .int bm.2.1, .int bm.2.2.1, .int bm.2.2.2.1, .int bm.2.2.2.2, .ref ok, .int km.2, .int qm.1, .int qm.2.1, .int qm.2.2.1, .int qm.2.2.2, .int bd, .int ym.1, .int ym.2.1, .int ym.2.2.1, .int ym.2.2.2])), (ob, .inl (cZ, 5200, .inl bm.1)), (ok, .inl (cK, 600, .inl km.1))]) [0, 1, 2] (by decide) rfl
          have hFc := va_free (wc := [(om, .inr (3, [.int th, .int st, .int lo, .ref ob, .int bm.2.1, .int bm.2.2.1, .int bm.2.2.2.1, .int bm.2.2.2.2, .ref ok, .int km.2, .int qm.1, .int qm.2.1, .int qm.2.2.1, .int qm.2.2.2, .int bd, .int ym.1, .int ym.2.1, .int ym.2.2.1, .int ym.2.2.2])), (ob, .inl (cZ, 5200, .inl bm.1)), (ok, .inl (cK, 600, .inl km.1))]) hD hS hA [0, 1, 2] rfl
          refine va_callv (va_runV (As := []) (rest := []) ⟨hx, hb, hml, hown, hts⟩ (mX3_stuff l dC dI cZ cK om ob ok s.heap.size st lo th bm km qm bd ym (wok_mono hW (by decide))) (cwV 0 hts (gV wd514 wd515 wd13 wd30 wd516) rfl rfl rfl (by decide +kernel) ⟨Nat.le_of_ble_eq_true rfl, Nat.le_of_ble_eq_true rfl⟩) ⟨fb_rw, va_recv hKc hPc (ci := 3) (q0 := 0) rfl rfl, pre_rw hPc hKc hDc hZ⟩ rfl rfl hl.1 rfl (lv_room (Nat.le_of_ble_eq_true rfl)) dX3_putBit_33 ⟨Nat.le_of_ble_eq_true rfl, Nat.le_of_ble_eq_true rfl⟩) hS (fun q _ h => hFc q h) hFc (fun u_2 t H1 locs ht hvm hw_1 hB hz1 hk1 hS => ?_)
          obtain ⟨hP1, hD1⟩ := hB
          rw [ht] at hP1
          obtain ⟨hP, hD⟩ := va_join (wr := []) (w1 := [(om, .inr (3, [.int th, .int st, .int lo, .ref ob, .int u_2.2.1, .int u_2.2.2.1, .int u_2.2.2.2.1, .int u_2.2.2.2.2, .ref ok, .int km.2, .int qm.1, .int qm.2.1, .int qm.2.2.1, .int qm.2.2.2, .int bd, .int ym.1, .int ym.2.1, .int ym.2.2.1, .int ym.2.2.2])), (ob, .inl (cZ, 5200, .inl u_2.1)), (ok, .inl (cK, 600, .inl km.1))]) hP hD [0, 1, 2] [] rfl rfl (by decide) (by decide) hk1 hFc hP1 hD1
          generalize H1 = H at hP hS ⊢
          have hP : va_P (dC, dI) vwCl [(om, .inr (3, [.int th, .int st, .int lo, .ref ob, .int u_2.2.1, .int u_2.2.2.1, .int u_2.2.2.2.1, .int u_2.2.2.2.2, .ref ok, .int km.2, .int qm.1, .int qm.2.1, .int qm.2.2.1, .int qm.2.2.2, .int bd, .int ym.1, .int ym.2.1, .int ym.2.2.1, .int ym.2.2.2])), (ob, .inl (cZ, 5200, .inl u_2.1)), (ok, .inl (cK, 600, .inl km.1))] H := hP
          have hD : va_D A [(om, .inr (3, [.int th, .int st, .int lo, .ref ob, .int u_2.2.1, .int u_2.2.2.1, .int u_2.2.2.2.1, .int u_2.2.2.2.2, .ref ok, .int km.2, .int qm.1, .int qm.2.1, .int qm.2.2.1, .int qm.2.2.2, .int bd, .int ym.1, .int ym.2.1, .int ym.2.2.1, .int ym.2.2.2])), (ob, .inl (cZ, 5200, .inl u_2.1)), (ok, .inl (cK, 600, .inl km.1))] := hD
          exact kX3_putBit_36 hx hb hr hml hown hts hlocks hA hZ hK  th u_2 km qm bd ym p0 (by first | exact wok_mono hW (by decide) | exact wok_stuff hW (by assumption)) (plX3_putBit_4 st lo th bm km qm bd ym p0 c_5 c_12 c_19 c_29 _ hw_1) _ _ (hP.sub (ws' := [(om, .inr (3, [.int th, .int st, .int lo, .ref ob, .int u_2.2.1, .int u_2.2.2.1, .int u_2.2.2.2.1, .int u_2.2.2.2.2, .ref ok, .int km.2, .int qm.1, .int qm.2.1, .int qm.2.2.1, .int qm.2.2.2, .int bd, .int ym.1, .int ym.2.1, .int ym.2.2.1, .int ym.2.2.2])), (ob, .inl (cZ, 5200, .inl u_2.1)), (ok, .inl (cK, 600, .inl km.1))]) [0, 1, 2] rfl) (hD.sub (ws' := [(om, .inr (3, [.int th, .int st, .int lo, .ref ob, .int u_2.2.1, .int u_2.2.2.1, .int u_2.2.2.2.1, .int u_2.2.2.2.2, .ref ok, .int km.2, .int qm.1, .int qm.2.1, .int qm.2.2.1, .int qm.2.2.2, .int bd, .int ym.1, .int ym.2.1, .int ym.2.2.1, .int ym.2.2.2])), (ob, .inl (cZ, 5200, .inl u_2.1)), (ok, .inl (cK, 600, .inl km.1))]) [0, 1, 2] (by decide) rfl) hS ls (lv_sub hl [0, 1] rfl)
