/-- where the reference reads -/
def oOk (t cnt : Int32) : Prop := 0 ≤ t.toInt ∧ t.toInt ≤ 4800 ∧ 0 ≤ cnt.toInt ∧ cnt.toInt ≤ 600
def yOk (km : Rw) (y : Tk) : Prop := oOk y.1 km.2 ∧ isB y.2.2.2
def tOk (t : Int32) : Prop := 0 ≤ t.toInt ∧ t.toInt + 1 ≤ 4800
theorem t_1 {t f : Int32} (h : tOk t) (e : f = t + 1) : f.toInt = t.toInt + 1 := by
  have h1 := h.1; have h2 := h.2
  rw [e]; exact addI (by rw [j1]) (by omega) (by omega)
theorem t_in {t : Int32} (h : tOk t) : vp_in (t / 8) 600 := by
  have h1 := h.1; have h2 := h.2
  have e := div8 h1
  exact inI (by omega) (by omega)
theorem go_in {t f : Int32} (h : tOk t) (e : f = t + 1) (c : f - f / 8 * 8 = 0) : vp_in (f / 8 - 1) 600 := by
  have e1 := t_1 h e
  have h1 := h.1; have h2 := h.2
  have e2 := rem8 (x := f) (by omega)
  rw [c, i0] at e2
  have e3 := div8 (x := f) (by omega)
  have e4 : (f / 8 - 1).toInt = f.toInt / 8 - 1 := subI (by rw [e3, j1]) (by omega) (by omega)
  exact inI (by omega) (by omega)
theorem lt_t {t cnt : Int32} (h : oOk t cnt) (c : t / 8 < cnt) : tOk t := by
  obtain ⟨h1, h2, h3, h4⟩ := h
  have e := div8 h1
  rw [ltI] at c
  exact ⟨h1, by omega⟩
theorem ob_in1 {t cnt x : Int32} (h : oOk t cnt) (e : x = t / 8) (c : x < cnt) : vp_in x 600 := by rw [e]; exact t_in (lt_t h (e ▸ c))
theorem ob_in2 {t cnt x : Int32} (h : oOk t cnt) (e : x = t / 8) (c : (x + 1) < cnt) : vp_in (x + 1) 600 := by
  obtain ⟨h1, h2, h3, h4⟩ := h
  have e1 := div8 h1
  rw [← e] at e1
  have e2 : (x + 1).toInt = x.toInt + 1 := addI (by rw [j1]) (by omega) (by omega)
  rw [ltI] at c
  exact inI (by omega) (by omega)
def FX3_goOn (st : Int32) (lo : Int32) (th : Int32) (bm : Bm) (km : Rw) (qm : Tk) (bd : Int32) (ym : Tk) : Tk :=
  let f_1 := ym.1 + 1
  if (f_1 - f_1 / 8 * 8) = 0 then
    if (km.1 ((f_1 / 8) - 1).toNatClampNeg) = 255 then
      (f_1, ym.2.1, ym.2.2.1, 1)
    else
      (f_1, ym.2.1, ym.2.2.1, 0)
  else
    (f_1, ym.2.1, ym.2.2.1, ym.2.2.2)
set_option maxRecDepth 100000 in
theorem plX3_goOn_0 (st : Int32) (lo : Int32) (th : Int32) (bm : Bm) (km : Rw) (qm : Tk) (bd : Int32) (ym : Tk) (f_1 : Int32) (ef_1 : f_1 = ym.1 + 1) (c_17 : ¬ ((f_1 - f_1 / 8 * 8) = 0)) : (f_1, ym.2.1, ym.2.2.1, ym.2.2.2) = FX3_goOn st lo th bm km qm bd ym := by
  subst ef_1
  exact (if_neg c_17).symm
set_option maxRecDepth 100000 in
theorem plX3_goOn_1 (st : Int32) (lo : Int32) (th : Int32) (bm : Bm) (km : Rw) (qm : Tk) (bd : Int32) (ym : Tk) (f_1 : Int32) (ef_1 : f_1 = ym.1 + 1) (c_17 : (f_1 - f_1 / 8 * 8) = 0) (c_38 : ¬ ((km.1 ((f_1 / 8) - 1).toNatClampNeg) = 255)) : (f_1, ym.2.1, ym.2.2.1, 0) = FX3_goOn st lo th bm km qm bd ym := by
  subst ef_1
  exact ((if_pos c_17).trans (if_neg c_38)).symm
set_option maxRecDepth 100000 in
theorem plX3_goOn_2 (st : Int32) (lo : Int32) (th : Int32) (bm : Bm) (km : Rw) (qm : Tk) (bd : Int32) (ym : Tk) (f_1 : Int32) (ef_1 : f_1 = ym.1 + 1) (c_17 : (f_1 - f_1 / 8 * 8) = 0) (c_38 : (km.1 ((f_1 / 8) - 1).toNatClampNeg) = 255) : (f_1, ym.2.1, ym.2.2.1, 1) = FX3_goOn st lo th bm km qm bd ym := by
  subst ef_1
  exact ((if_pos c_17).trans (if_pos c_38)).symm
set_option maxHeartbeats 4000000 in
set_option maxRecDepth 100000 in
theorem mX3_goOn (l : Launch) (dC : Nat → ClassId) (dI : Nat → Nat → Nat) (cZ cK : ClassId) (om ob ok : Nat) (sz : Nat) (st : Int32) (lo : Int32) (th : Int32) (bm : Bm) (km : Rw) (qm : Tk) (bd : Int32) (ym : Tk) (hg : tOk ym.1) : Met l yX3_goOn (Cond.code yX3_goOn cX3_goOn 1 none :: G) ({ frames := 0, cells := 0, slots := 0, locals := 0 } : Room) (va_Pc [.ref om] (fun U => U.heap.size = sz ∧ va_P (dC, dI) vwCl [(om, .inr (3, [.int th, .int st, .int lo, .ref ob, .int bm.2.1, .int bm.2.2.1, .int bm.2.2.2.1, .int bm.2.2.2.2, .ref ok, .int km.2, .int qm.1, .int qm.2.1, .int qm.2.2.1, .int qm.2.2.2, .int bd, .int ym.1, .int ym.2.1, .int ym.2.2.1, .int ym.2.2.2])), (ob, .inl (cZ, 5200, .inl bm.1)), (ok, .inl (cK, 600, .inl km.1))] U.heap ∧ va_K (dC, dI) vwCl [(cZ, .boolean), (cK, .int)] U ∧ va_D (fun _ => True) [(om, .inr (3, [.int th, .int st, .int lo, .ref ob, .int bm.2.1, .int bm.2.2.1, .int bm.2.2.2.1, .int bm.2.2.2.2, .ref ok, .int km.2, .int qm.1, .int qm.2.1, .int qm.2.2.1, .int qm.2.2.2, .int bd, .int ym.1, .int ym.2.1, .int ym.2.2.1, .int ym.2.2.2])), (ob, .inl (cZ, 5200, .inl bm.1)), (ok, .inl (cK, 600, .inl km.1))] ∧ zOk U)) (va_Qv (fun (u : Tk) => u = (FX3_goOn st lo th bm km qm bd ym)) (fun (u : Tk) (t : State) => va_P (dC, dI) vwCl [(om, .inr (3, [.int th, .int st, .int lo, .ref ob, .int bm.2.1, .int bm.2.2.1, .int bm.2.2.2.1, .int bm.2.2.2.2, .ref ok, .int km.2, .int qm.1, .int qm.2.1, .int qm.2.2.1, .int qm.2.2.2, .int bd, .int u.1, .int u.2.1, .int u.2.2.1, .int u.2.2.2])), (ob, .inl (cZ, 5200, .inl bm.1)), (ok, .inl (cK, 600, .inl km.1))] t.heap ∧ va_D (va_A [(om, .inr (3, [.int th, .int st, .int lo, .ref ob, .int bm.2.1, .int bm.2.2.1, .int bm.2.2.2.1, .int bm.2.2.2.2, .ref ok, .int km.2, .int qm.1, .int qm.2.1, .int qm.2.2.1, .int qm.2.2.2, .int bd, .int ym.1, .int ym.2.1, .int ym.2.2.1, .int ym.2.2.2])), (ob, .inl (cZ, 5200, .inl bm.1)), (ok, .inl (cK, 600, .inl km.1))] sz) [(om, .inr (3, [.int th, .int st, .int lo, .ref ob, .int bm.2.1, .int bm.2.2.1, .int bm.2.2.2.1, .int bm.2.2.2.2, .ref ok, .int km.2, .int qm.1, .int qm.2.1, .int qm.2.2.1, .int qm.2.2.2, .int bd, .int u.1, .int u.2.1, .int u.2.2.1, .int u.2.2.2])), (ob, .inl (cZ, 5200, .inl bm.1)), (ok, .inl (cK, 600, .inl km.1))]) (va_A [(om, .inr (3, [.int th, .int st, .int lo, .ref ob, .int bm.2.1, .int bm.2.2.1, .int bm.2.2.2.1, .int bm.2.2.2.2, .ref ok, .int km.2, .int qm.1, .int qm.2.1, .int qm.2.2.1, .int qm.2.2.2, .int bd, .int ym.1, .int ym.2.1, .int ym.2.2.1, .int ym.2.2.2])), (ob, .inl (cZ, 5200, .inl bm.1)), (ok, .inl (cK, 600, .inl km.1))] sz)) 0 0 (va_A [(om, .inr (3, [.int th, .int st, .int lo, .ref ob, .int bm.2.1, .int bm.2.2.1, .int bm.2.2.2.1, .int bm.2.2.2.2, .ref ok, .int km.2, .int qm.1, .int qm.2.1, .int qm.2.2.1, .int qm.2.2.2, .int bd, .int ym.1, .int ym.2.1, .int ym.2.2.1, .int ym.2.2.2])), (ob, .inl (cZ, 5200, .inl bm.1)), (ok, .inl (cK, 600, .inl km.1))] sz) := by
  refine Met.ofW (cc := cX3_goOn) (maxL := 1) (ret := none) (by decide) rfl ?_
  intro p e s m args below meth c s₁ B hml hv
  obtain ⟨rfl, hsz, hP, hK, hD0, hZ⟩ := hv
  have hx := B.exec
  have hb := B.bytes
  have hr := B.returns
  have hts : ∀ w ∈ G, w.before [.ref om].toArray s = true := fun w h => atoms_spec (ws := (Cond.code yX3_goOn cX3_goOn 1 none :: G)) B.pre w (List.mem_cons_of_mem _ h)
  have hown : s.vm.findClass RX3 = some m.cls := findClass_of_methodNamed B.named
  have hlocks := B.notSynchronized
  subst hsz
  have hD := hD0.self (sz := s.heap.size)
  generalize hAe : va_A [(om, .inr (3, [.int th, .int st, .int lo, .ref ob, .int bm.2.1, .int bm.2.2.1, .int bm.2.2.2.1, .int bm.2.2.2.2, .ref ok, .int km.2, .int qm.1, .int qm.2.1, .int qm.2.2.1, .int qm.2.2.2, .int bd, .int ym.1, .int ym.2.1, .int ym.2.2.1, .int ym.2.2.2])), (ob, .inl (cZ, 5200, .inl bm.1)), (ok, .inl (cK, 600, .inl km.1))] s.heap.size = A at hD ⊢
  have hA : ∀ q : Nat, s.heap.size ≤ q → A q := fun q h => by rw [← hAe]; exact Or.inr h
  have hS : va_S A s.heap s.heap [] := va_S.rf
  have hP : va_P (dC, dI) vwCl [(om, .inr (3, [.int th, .int st, .int lo, .ref ob, .int bm.2.1, .int bm.2.2.1, .int bm.2.2.2.1, .int bm.2.2.2.2, .ref ok, .int km.2, .int qm.1, .int qm.2.1, .int qm.2.2.1, .int qm.2.2.2, .int bd, .int ym.1, .int ym.2.1, .int ym.2.2.1, .int ym.2.2.2])), (ob, .inl (cZ, 5200, .inl bm.1)), (ok, .inl (cK, 600, .inl km.1))] s.heap := hP
  have hl := lv_entry ([.ref om]) (n := 1) (Nat.le_of_ble_eq_true rfl)
  rw [lg_entry_eq]
  generalize (lg_sl ([.ref om]) ++ List.replicate (1 - (lg_sl ([.ref om])).length) Slot.unset).toArray = ls at hl ⊢
  have hl : lv_has ls 1 [(0, .ref om)] := hl
  refine lv_aload_n hx hb dX3_goOn_0 rfl (lv_at hl 0 rfl) ?_
  refine lv_dup hx hb dX3_goOn_1 rfl ?_
  refine va_get (D := (dC, dI)) (ci := 3) (v := .int ym.1) (C := RX3) (T := TX3) (N := 19) hx hb hts inGX3 hown hK hP 0 rfl rfl 15 (by decide) (hts _ wd452) (fun _ h9 => h9) rfl dX3_goOn_2 ?_
  refine lv_iconst (v := 1) hx hb dX3_goOn_5 (by decide) ?_
  refine lv_iadd hx hb dX3_goOn_6 ?_
  refine lv_topi (fun f_1 ef_1 => ?_)
  refine va_put (D := (dC, dI)) (ci := 3) (v := .int f_1) (ty := .int) (C := RX3) (T := TX3) (N := 19) hx hb hts inGX3 tyX3 tyX3_ok nmX3 hown hK hP hD hS 0 rfl rfl 15 (by decide) (hts _ wd452) (fun _ h9 => h9) rfl (by decide +kernel) rfl rfl (Nat.le_of_ble_eq_true rfl) dX3_goOn_7 (fun H locs hP hD hS => ?_)
  have hP : va_P (dC, dI) vwCl [(om, .inr (3, [.int th, .int st, .int lo, .ref ob, .int bm.2.1, .int bm.2.2.1, .int bm.2.2.2.1, .int bm.2.2.2.2, .ref ok, .int km.2, .int qm.1, .int qm.2.1, .int qm.2.2.1, .int qm.2.2.2, .int bd, .int f_1, .int ym.2.1, .int ym.2.2.1, .int ym.2.2.2])), (ob, .inl (cZ, 5200, .inl bm.1)), (ok, .inl (cK, 600, .inl km.1))] H := hP
  have hD : va_D A [(om, .inr (3, [.int th, .int st, .int lo, .ref ob, .int bm.2.1, .int bm.2.2.1, .int bm.2.2.2.1, .int bm.2.2.2.2, .ref ok, .int km.2, .int qm.1, .int qm.2.1, .int qm.2.2.1, .int qm.2.2.2, .int bd, .int f_1, .int ym.2.1, .int ym.2.2.1, .int ym.2.2.2])), (ob, .inl (cZ, 5200, .inl bm.1)), (ok, .inl (cK, 600, .inl km.1))] := hD
  refine lv_aload_n hx hb dX3_goOn_10 rfl (lv_at hl 0 rfl) ?_
  refine va_get (D := (dC, dI)) (ci := 3) (v := .int f_1) (C := RX3) (T := TX3) (N := 19) hx hb hts inGX3 hown hK hP 0 rfl rfl 15 (by decide) (hts _ wd452) (fun _ h9 => h9) rfl dX3_goOn_11 ?_
  refine lv_bipush (v := 8) hx hb dX3_goOn_14 (by decide) ?_
  refine lv_irem hx hb dX3_goOn_16 (by decide) ?_
  refine lv_if_ne (tgt := 49) hx hb dX3_goOn_17 (by decide) (fun c_17 => ?_) (fun c_17 => ?_)
  · have hP9 := hP.sub (ws' := [(om, .inr (3, [.int th, .int st, .int lo, .ref ob, .int bm.2.1, .int bm.2.2.1, .int bm.2.2.2.1, .int bm.2.2.2.2, .ref ok, .int km.2, .int qm.1, .int qm.2.1, .int qm.2.2.1, .int qm.2.2.2, .int bd, .int f_1, .int ym.2.1, .int ym.2.2.1, .int ym.2.2.2])), (ob, .inl (cZ, 5200, .inl bm.1)), (ok, .inl (cK, 600, .inl km.1))]) [0, 1, 2] rfl
    have hD9 := hD.sub (ws' := [(om, .inr (3, [.int th, .int st, .int lo, .ref ob, .int bm.2.1, .int bm.2.2.1, .int bm.2.2.2.1, .int bm.2.2.2.2, .ref ok, .int km.2, .int qm.1, .int qm.2.1, .int qm.2.2.1, .int qm.2.2.2, .int bd, .int f_1, .int ym.2.1, .int ym.2.2.1, .int ym.2.2.2])), (ob, .inl (cZ, 5200, .inl bm.1)), (ok, .inl (cK, 600, .inl km.1))]) [0, 1, 2] (by decide) rfl
    exact W.vret hx hb hr (fun t ht hW => ⟨⟨(f_1, ym.2.1, ym.2.2.1, ym.2.2.2), rfl, (plX3_goOn_0 st lo th bm km qm bd ym _ ef_1 c_17), by rw [ht]; exact hP9, hD9⟩, hS.F ht⟩) hS.2.2 dX3_goOn_49
  · refine lv_aload_n hx hb dX3_goOn_20 rfl (lv_at hl 0 rfl) ?_
    refine lv_aload_n hx hb dX3_goOn_21 rfl (lv_at hl 0 rfl) ?_
    refine va_get (D := (dC, dI)) (ci := 3) (v := .ref ok) (C := RX3) (T := TX3) (N := 19) hx hb hts inGX3 hown hK hP 0 rfl rfl 8 (by decide) (hts _ wd445) (fun _ h9 => h9) rfl dX3_goOn_22 ?_
    refine lv_aload_n hx hb dX3_goOn_25 rfl (lv_at hl 0 rfl) ?_
    refine va_get (D := (dC, dI)) (ci := 3) (v := .int f_1) (C := RX3) (T := TX3) (N := 19) hx hb hts inGX3 hown hK hP 0 rfl rfl 15 (by decide) (hts _ wd452) (fun _ h9 => h9) rfl dX3_goOn_26 ?_
    refine lv_bipush (v := 8) hx hb dX3_goOn_29 (by decide) ?_
    refine lv_idiv hx hb dX3_goOn_31 (by decide) ?_
    refine lv_iconst (v := 1) hx hb dX3_goOn_32 (by decide) ?_
    refine lv_isub hx hb dX3_goOn_33 ?_
    refine va_iald hx hb hK hP 2 1 rfl rfl (go_in hg (by assumption) c_17) dX3_goOn_34 ?_
    refine lv_sipush (v := 255) hx hb dX3_goOn_35 (by decide) ?_
    refine lv_icmp_ne (tgt := 45) hx hb dX3_goOn_38 (by decide) (fun c_38 => ?_) (fun c_38 => ?_)
    · refine lv_iconst (v := 0) hx hb dX3_goOn_45 (by decide) ?_
      refine va_put (D := (dC, dI)) (ci := 3) (v := .int 0) (ty := .boolean) (C := RX3) (T := TX3) (N := 19) hx hb hts inGX3 tyX3 tyX3_ok nmX3 hown hK hP hD hS 0 rfl rfl 18 (by decide) (hts _ wd455) (fun _ h9 => h9) rfl (by decide +kernel) rfl rfl (Nat.le_of_ble_eq_true rfl) dX3_goOn_46 (fun H locs hP hD hS => ?_)
      have hP : va_P (dC, dI) vwCl [(om, .inr (3, [.int th, .int st, .int lo, .ref ob, .int bm.2.1, .int bm.2.2.1, .int bm.2.2.2.1, .int bm.2.2.2.2, .ref ok, .int km.2, .int qm.1, .int qm.2.1, .int qm.2.2.1, .int qm.2.2.2, .int bd, .int f_1, .int ym.2.1, .int ym.2.2.1, .int 0])), (ob, .inl (cZ, 5200, .inl bm.1)), (ok, .inl (cK, 600, .inl km.1))] H := hP
      have hD : va_D A [(om, .inr (3, [.int th, .int st, .int lo, .ref ob, .int bm.2.1, .int bm.2.2.1, .int bm.2.2.2.1, .int bm.2.2.2.2, .ref ok, .int km.2, .int qm.1, .int qm.2.1, .int qm.2.2.1, .int qm.2.2.2, .int bd, .int f_1, .int ym.2.1, .int ym.2.2.1, .int 0])), (ob, .inl (cZ, 5200, .inl bm.1)), (ok, .inl (cK, 600, .inl km.1))] := hD
      have hP9 := hP.sub (ws' := [(om, .inr (3, [.int th, .int st, .int lo, .ref ob, .int bm.2.1, .int bm.2.2.1, .int bm.2.2.2.1, .int bm.2.2.2.2, .ref ok, .int km.2, .int qm.1, .int qm.2.1, .int qm.2.2.1, .int qm.2.2.2, .int bd, .int f_1, .int ym.2.1, .int ym.2.2.1, .int 0])), (ob, .inl (cZ, 5200, .inl bm.1)), (ok, .inl (cK, 600, .inl km.1))]) [0, 1, 2] rfl
      have hD9 := hD.sub (ws' := [(om, .inr (3, [.int th, .int st, .int lo, .ref ob, .int bm.2.1, .int bm.2.2.1, .int bm.2.2.2.1, .int bm.2.2.2.2, .ref ok, .int km.2, .int qm.1, .int qm.2.1, .int qm.2.2.1, .int qm.2.2.2, .int bd, .int f_1, .int ym.2.1, .int ym.2.2.1, .int 0])), (ob, .inl (cZ, 5200, .inl bm.1)), (ok, .inl (cK, 600, .inl km.1))]) [0, 1, 2] (by decide) rfl
      exact W.vret hx hb hr (fun t ht hW => ⟨⟨(f_1, ym.2.1, ym.2.2.1, 0), rfl, (plX3_goOn_1 st lo th bm km qm bd ym _ ef_1 c_17 c_38), by rw [ht]; exact hP9, hD9⟩, hS.F ht⟩) hS.2.2 dX3_goOn_49
    · refine lv_iconst (v := 1) hx hb dX3_goOn_41 (by decide) ?_
      refine lv_goto (tgt := 46) hx hb dX3_goOn_42 (by decide) ?_
      refine va_put (D := (dC, dI)) (ci := 3) (v := .int 1) (ty := .boolean) (C := RX3) (T := TX3) (N := 19) hx hb hts inGX3 tyX3 tyX3_ok nmX3 hown hK hP hD hS 0 rfl rfl 18 (by decide) (hts _ wd455) (fun _ h9 => h9) rfl (by decide +kernel) rfl rfl (Nat.le_of_ble_eq_true rfl) dX3_goOn_46 (fun H locs hP hD hS => ?_)
      have hP : va_P (dC, dI) vwCl [(om, .inr (3, [.int th, .int st, .int lo, .ref ob, .int bm.2.1, .int bm.2.2.1, .int bm.2.2.2.1, .int bm.2.2.2.2, .ref ok, .int km.2, .int qm.1, .int qm.2.1, .int qm.2.2.1, .int qm.2.2.2, .int bd, .int f_1, .int ym.2.1, .int ym.2.2.1, .int 1])), (ob, .inl (cZ, 5200, .inl bm.1)), (ok, .inl (cK, 600, .inl km.1))] H := hP
      have hD : va_D A [(om, .inr (3, [.int th, .int st, .int lo, .ref ob, .int bm.2.1, .int bm.2.2.1, .int bm.2.2.2.1, .int bm.2.2.2.2, .ref ok, .int km.2, .int qm.1, .int qm.2.1, .int qm.2.2.1, .int qm.2.2.2, .int bd, .int f_1, .int ym.2.1, .int ym.2.2.1, .int 1])), (ob, .inl (cZ, 5200, .inl bm.1)), (ok, .inl (cK, 600, .inl km.1))] := hD
      have hP9 := hP.sub (ws' := [(om, .inr (3, [.int th, .int st, .int lo, .ref ob, .int bm.2.1, .int bm.2.2.1, .int bm.2.2.2.1, .int bm.2.2.2.2, .ref ok, .int km.2, .int qm.1, .int qm.2.1, .int qm.2.2.1, .int qm.2.2.2, .int bd, .int f_1, .int ym.2.1, .int ym.2.2.1, .int 1])), (ob, .inl (cZ, 5200, .inl bm.1)), (ok, .inl (cK, 600, .inl km.1))]) [0, 1, 2] rfl
      have hD9 := hD.sub (ws' := [(om, .inr (3, [.int th, .int st, .int lo, .ref ob, .int bm.2.1, .int bm.2.2.1, .int bm.2.2.2.1, .int bm.2.2.2.2, .ref ok, .int km.2, .int qm.1, .int qm.2.1, .int qm.2.2.1, .int qm.2.2.2, .int bd, .int f_1, .int ym.2.1, .int ym.2.2.1, .int 1])), (ob, .inl (cZ, 5200, .inl bm.1)), (ok, .inl (cK, 600, .inl km.1))]) [0, 1, 2] (by decide) rfl
      exact W.vret hx hb hr (fun t ht hW => ⟨⟨(f_1, ym.2.1, ym.2.2.1, 1), rfl, (plX3_goOn_2 st lo th bm km qm bd ym _ ef_1 c_17 c_38), by rw [ht]; exact hP9, hD9⟩, hS.F ht⟩) hS.2.2 dX3_goOn_49
def FX3_obstacle (st : Int32) (lo : Int32) (th : Int32) (bm : Bm) (km : Rw) (qm : Tk) (bd : Int32) (ym : Tk) : Int32 :=
  let x_1 := ym.1 / 8
  if x_1 < km.2 then
    if st = 1 then
      if (ym.1 - ym.1 / 8 * 8) = 0 then
        if (km.1 x_1.toNatClampNeg) = 255 then
          if (x_1 + 1) < km.2 then
            if (km.1 (x_1 + 1).toNatClampNeg) ≤ 127 then
              0
            else
              (-2)
          else
            (-1)
        else
          0
      else
        0
    else
      0
  else
    (-1)
set_option maxRecDepth 100000 in
theorem plX3_obstacle_0 (st : Int32) (lo : Int32) (th : Int32) (bm : Bm) (km : Rw) (qm : Tk) (bd : Int32) (ym : Tk) (x_1 : Int32) (ex_1 : x_1 = ym.1 / 8) (c_13 : x_1 < km.2) (c_23 : ¬ (st = 1)) : 0 = FX3_obstacle st lo th bm km qm bd ym := by
  subst ex_1
  exact ((if_pos c_13).trans (if_neg c_23)).symm
set_option maxRecDepth 100000 in
theorem plX3_obstacle_1 (st : Int32) (lo : Int32) (th : Int32) (bm : Bm) (km : Rw) (qm : Tk) (bd : Int32) (ym : Tk) (x_1 : Int32) (ex_1 : x_1 = ym.1 / 8) (c_13 : x_1 < km.2) (c_23 : st = 1) (c_33 : ¬ ((ym.1 - ym.1 / 8 * 8) = 0)) : 0 = FX3_obstacle st lo th bm km qm bd ym := by
  subst ex_1
  exact (((if_pos c_13).trans (if_pos c_23)).trans (if_neg c_33)).symm
set_option maxRecDepth 100000 in
theorem plX3_obstacle_2 (st : Int32) (lo : Int32) (th : Int32) (bm : Bm) (km : Rw) (qm : Tk) (bd : Int32) (ym : Tk) (x_1 : Int32) (ex_1 : x_1 = ym.1 / 8) (c_13 : x_1 < km.2) (c_23 : st = 1) (c_33 : (ym.1 - ym.1 / 8 * 8) = 0) (c_45 : ¬ ((km.1 x_1.toNatClampNeg) = 255)) : 0 = FX3_obstacle st lo th bm km qm bd ym := by
  subst ex_1
  exact ((((if_pos c_13).trans (if_pos c_23)).trans (if_pos c_33)).trans (if_neg c_45)).symm
set_option maxRecDepth 100000 in
theorem plX3_obstacle_3 (st : Int32) (lo : Int32) (th : Int32) (bm : Bm) (km : Rw) (qm : Tk) (bd : Int32) (ym : Tk) (x_1 : Int32) (ex_1 : x_1 = ym.1 / 8) (c_13 : x_1 < km.2) (c_23 : st = 1) (c_33 : (ym.1 - ym.1 / 8 * 8) = 0) (c_45 : (km.1 x_1.toNatClampNeg) = 255) (c_55 : (x_1 + 1) < km.2) (c_72 : (km.1 (x_1 + 1).toNatClampNeg) ≤ 127) : 0 = FX3_obstacle st lo th bm km qm bd ym := by
  subst ex_1
  exact ((((((if_pos c_13).trans (if_pos c_23)).trans (if_pos c_33)).trans (if_pos c_45)).trans (if_pos c_55)).trans (if_pos c_72)).symm
set_option maxRecDepth 100000 in
theorem plX3_obstacle_4 (st : Int32) (lo : Int32) (th : Int32) (bm : Bm) (km : Rw) (qm : Tk) (bd : Int32) (ym : Tk) (x_1 : Int32) (ex_1 : x_1 = ym.1 / 8) (c_13 : x_1 < km.2) (c_23 : st = 1) (c_33 : (ym.1 - ym.1 / 8 * 8) = 0) (c_45 : (km.1 x_1.toNatClampNeg) = 255) (c_55 : (x_1 + 1) < km.2) (c_72 : ¬ ((km.1 (x_1 + 1).toNatClampNeg) ≤ 127)) : (-2) = FX3_obstacle st lo th bm km qm bd ym := by
  subst ex_1
  exact ((((((if_pos c_13).trans (if_pos c_23)).trans (if_pos c_33)).trans (if_pos c_45)).trans (if_pos c_55)).trans (if_neg c_72)).symm
set_option maxRecDepth 100000 in
theorem plX3_obstacle_5 (st : Int32) (lo : Int32) (th : Int32) (bm : Bm) (km : Rw) (qm : Tk) (bd : Int32) (ym : Tk) (x_1 : Int32) (ex_1 : x_1 = ym.1 / 8) (c_13 : x_1 < km.2) (c_23 : st = 1) (c_33 : (ym.1 - ym.1 / 8 * 8) = 0) (c_45 : (km.1 x_1.toNatClampNeg) = 255) (c_55 : ¬ ((x_1 + 1) < km.2)) : (-1) = FX3_obstacle st lo th bm km qm bd ym := by
  subst ex_1
  exact (((((if_pos c_13).trans (if_pos c_23)).trans (if_pos c_33)).trans (if_pos c_45)).trans (if_neg c_55)).symm
set_option maxRecDepth 100000 in
theorem plX3_obstacle_6 (st : Int32) (lo : Int32) (th : Int32) (bm : Bm) (km : Rw) (qm : Tk) (bd : Int32) (ym : Tk) (x_1 : Int32) (ex_1 : x_1 = ym.1 / 8) (c_13 : ¬ (x_1 < km.2)) : (-1) = FX3_obstacle st lo th bm km qm bd ym := by
  subst ex_1
  exact (if_neg c_13).symm
set_option maxHeartbeats 4000000 in
set_option maxRecDepth 100000 in
theorem mX3_obstacle (l : Launch) (dC : Nat → ClassId) (dI : Nat → Nat → Nat) (cZ cK : ClassId) (om ob ok : Nat) (st : Int32) (lo : Int32) (th : Int32) (bm : Bm) (km : Rw) (qm : Tk) (bd : Int32) (ym : Tk) (ho : oOk ym.1 km.2) : Met l yX3_obstacle (Cond.code yX3_obstacle cX3_obstacle 2 (some .int) :: G) ({ frames := 0, cells := 0, slots := 0, locals := 0 } : Room) (va_Pc [.ref om] (fun U => va_P (dC, dI) vwCl [(om, .inr (3, [.int th, .int st, .int lo, .ref ob, .int bm.2.1, .int bm.2.2.1, .int bm.2.2.2.1, .int bm.2.2.2.2, .ref ok, .int km.2, .int qm.1, .int qm.2.1, .int qm.2.2.1, .int qm.2.2.2, .int bd, .int ym.1, .int ym.2.1, .int ym.2.2.1, .int ym.2.2.2])), (ob, .inl (cZ, 5200, .inl bm.1)), (ok, .inl (cK, 600, .inl km.1))] U.heap ∧ va_K (dC, dI) vwCl [(cZ, .boolean), (cK, .int)] U ∧ zOk U)) (vp_Si (fun r => r = (FX3_obstacle st lo th bm km qm bd ym))) 0 0 (fun _ => False) := by
  refine Met.ofW (cc := cX3_obstacle) (maxL := 2) (ret := (some .int)) (by decide) rfl ?_
  intro p e s m args below meth c s₁ B hml hv
  obtain ⟨rfl, hP, hK, hZ⟩ := hv
  have hx := B.exec
  have hb := B.bytes
  have hr := B.returns
  have hts : ∀ w ∈ G, w.before [.ref om].toArray s = true := fun w h => atoms_spec (ws := (Cond.code yX3_obstacle cX3_obstacle 2 (some .int) :: G)) B.pre w (List.mem_cons_of_mem _ h)
  have hown : s.vm.findClass RX3 = some m.cls := findClass_of_methodNamed B.named
  have hlocks := B.notSynchronized
  have hl := lv_entry ([.ref om]) (n := 2) (Nat.le_of_ble_eq_true rfl)
  rw [lg_entry_eq]
  generalize (lg_sl ([.ref om]) ++ List.replicate (2 - (lg_sl ([.ref om])).length) Slot.unset).toArray = ls at hl ⊢
  have hl : lv_has ls 2 [(0, .ref om)] := hl
  refine lv_aload_n hx hb dX3_obstacle_0 rfl (lv_at hl 0 rfl) ?_
  refine va_get (D := (dC, dI)) (ci := 3) (v := .int ym.1) (C := RX3) (T := TX3) (N := 19) hx hb hts inGX3 hown hK hP 0 rfl rfl 15 (by decide) (hts _ wd452) (fun _ h9 => h9) rfl dX3_obstacle_1 ?_
  refine lv_bipush (v := 8) hx hb dX3_obstacle_4 (by decide) ?_
  refine lv_idiv hx hb dX3_obstacle_6 (by decide) ?_
  refine lv_topi (fun x_1 ex_1 => ?_)
  refine lv_istore_n (lv' := [(1, .int x_1), (0, .ref om)]) hx hb dX3_obstacle_7 rfl hl (by decide) rfl (fun ls hl => ?_)
  refine lv_iload_n hx hb dX3_obstacle_8 rfl (lv_at hl 0 rfl) ?_
  refine lv_aload_n hx hb dX3_obstacle_9 rfl (lv_at hl 1 rfl) ?_
  refine va_get (D := (dC, dI)) (ci := 3) (v := .int km.2) (C := RX3) (T := TX3) (N := 19) hx hb hts inGX3 hown hK hP 0 rfl rfl 9 (by decide) (hts _ wd446) (fun _ h9 => h9) rfl dX3_obstacle_10 ?_
  refine lv_icmp_lt (tgt := 18) hx hb dX3_obstacle_13 (by decide) (fun c_13 => ?_) (fun c_13 => ?_)
  · refine lv_aload_n hx hb dX3_obstacle_18 rfl (lv_at hl 1 rfl) ?_
    refine va_get (D := (dC, dI)) (ci := 3) (v := .int st) (C := RX3) (T := TX3) (N := 19) hx hb hts inGX3 hown hK hP 0 rfl rfl 1 (by decide) (hts _ wd438) (fun _ h9 => h9) rfl dX3_obstacle_19 ?_
    refine lv_iconst (v := 1) hx hb dX3_obstacle_22 (by decide) ?_
    refine lv_icmp_ne (tgt := 82) hx hb dX3_obstacle_23 (by decide) (fun c_23 => ?_) (fun c_23 => ?_)
    · refine lv_iconst (v := 0) hx hb dX3_obstacle_82 (by decide) ?_
      exact W.iret (v := 0) hx hb hr (fun t ht hW => ⟨0, rfl, (plX3_obstacle_0 st lo th bm km qm bd ym _ ex_1 c_13 c_23), ht⟩) (fun q h => nomatch h) dX3_obstacle_83
    · refine lv_aload_n hx hb dX3_obstacle_26 rfl (lv_at hl 1 rfl) ?_
      refine va_get (D := (dC, dI)) (ci := 3) (v := .int ym.1) (C := RX3) (T := TX3) (N := 19) hx hb hts inGX3 hown hK hP 0 rfl rfl 15 (by decide) (hts _ wd452) (fun _ h9 => h9) rfl dX3_obstacle_27 ?_
      refine lv_bipush (v := 8) hx hb dX3_obstacle_30 (by decide) ?_
      refine lv_irem hx hb dX3_obstacle_32 (by decide) ?_
      refine lv_if_ne (tgt := 82) hx hb dX3_obstacle_33 (by decide) (fun c_33 => ?_) (fun c_33 => ?_)
      · refine lv_iconst (v := 0) hx hb dX3_obstacle_82 (by decide) ?_
        exact W.iret (v := 0) hx hb hr (fun t ht hW => ⟨0, rfl, (plX3_obstacle_1 st lo th bm km qm bd ym _ ex_1 c_13 c_23 c_33), ht⟩) (fun q h => nomatch h) dX3_obstacle_83
      · refine lv_aload_n hx hb dX3_obstacle_36 rfl (lv_at hl 1 rfl) ?_
        refine va_get (D := (dC, dI)) (ci := 3) (v := .ref ok) (C := RX3) (T := TX3) (N := 19) hx hb hts inGX3 hown hK hP 0 rfl rfl 8 (by decide) (hts _ wd445) (fun _ h9 => h9) rfl dX3_obstacle_37 ?_
        refine lv_iload_n hx hb dX3_obstacle_40 rfl (lv_at hl 0 rfl) ?_
        refine va_iald hx hb hK hP 2 1 rfl rfl (ob_in1 ho (by assumption) c_13) dX3_obstacle_41 ?_
        refine lv_sipush (v := 255) hx hb dX3_obstacle_42 (by decide) ?_
        refine lv_icmp_ne (tgt := 82) hx hb dX3_obstacle_45 (by decide) (fun c_45 => ?_) (fun c_45 => ?_)
        · refine lv_iconst (v := 0) hx hb dX3_obstacle_82 (by decide) ?_
          exact W.iret (v := 0) hx hb hr (fun t ht hW => ⟨0, rfl, (plX3_obstacle_2 st lo th bm km qm bd ym _ ex_1 c_13 c_23 c_33 c_45), ht⟩) (fun q h => nomatch h) dX3_obstacle_83
        · refine lv_iload_n hx hb dX3_obstacle_48 rfl (lv_at hl 0 rfl) ?_
          refine lv_iconst (v := 1) hx hb dX3_obstacle_49 (by decide) ?_
          refine lv_iadd hx hb dX3_obstacle_50 ?_
          refine lv_aload_n hx hb dX3_obstacle_51 rfl (lv_at hl 1 rfl) ?_
          refine va_get (D := (dC, dI)) (ci := 3) (v := .int km.2) (C := RX3) (T := TX3) (N := 19) hx hb hts inGX3 hown hK hP 0 rfl rfl 9 (by decide) (hts _ wd446) (fun _ h9 => h9) rfl dX3_obstacle_52 ?_
          refine lv_icmp_lt (tgt := 62) hx hb dX3_obstacle_55 (by decide) (fun c_55 => ?_) (fun c_55 => ?_)
          · refine lv_aload_n hx hb dX3_obstacle_62 rfl (lv_at hl 1 rfl) ?_
            refine va_get (D := (dC, dI)) (ci := 3) (v := .ref ok) (C := RX3) (T := TX3) (N := 19) hx hb hts inGX3 hown hK hP 0 rfl rfl 8 (by decide) (hts _ wd445) (fun _ h9 => h9) rfl dX3_obstacle_63 ?_
            refine lv_iload_n hx hb dX3_obstacle_66 rfl (lv_at hl 0 rfl) ?_
            refine lv_iconst (v := 1) hx hb dX3_obstacle_67 (by decide) ?_
            refine lv_iadd hx hb dX3_obstacle_68 ?_
            refine va_iald hx hb hK hP 2 1 rfl rfl (ob_in2 ho (by assumption) c_55) dX3_obstacle_69 ?_
            refine lv_bipush (v := 127) hx hb dX3_obstacle_70 (by decide) ?_
            refine lv_icmp_le (tgt := 80) hx hb dX3_obstacle_72 (by decide) (fun c_72 => ?_) (fun c_72 => ?_)
            · refine lv_iconst (v := 0) hx hb dX3_obstacle_80 (by decide) ?_
              exact W.iret (v := 0) hx hb hr (fun t ht hW => ⟨0, rfl, (plX3_obstacle_3 st lo th bm km qm bd ym _ ex_1 c_13 c_23 c_33 c_45 c_55 c_72), ht⟩) (fun q h => nomatch h) dX3_obstacle_81
            · refine lv_bipush (v := (-2)) hx hb dX3_obstacle_75 (by decide) ?_
              refine lv_goto (tgt := 81) hx hb dX3_obstacle_77 (by decide) ?_
              exact W.iret (v := (-2)) hx hb hr (fun t ht hW => ⟨(-2), rfl, (plX3_obstacle_4 st lo th bm km qm bd ym _ ex_1 c_13 c_23 c_33 c_45 c_55 c_72), ht⟩) (fun q h => nomatch h) dX3_obstacle_81
          · refine lv_iconst (v := (-1)) hx hb dX3_obstacle_58 (by decide) ?_
            refine lv_goto (tgt := 81) hx hb dX3_obstacle_59 (by decide) ?_
            exact W.iret (v := (-1)) hx hb hr (fun t ht hW => ⟨(-1), rfl, (plX3_obstacle_5 st lo th bm km qm bd ym _ ex_1 c_13 c_23 c_33 c_45 c_55), ht⟩) (fun q h => nomatch h) dX3_obstacle_81
  · refine lv_iconst (v := (-1)) hx hb dX3_obstacle_16 (by decide) ?_
    exact W.iret (v := (-1)) hx hb hr (fun t ht hW => ⟨(-1), rfl, (plX3_obstacle_6 st lo th bm km qm bd ym _ ex_1 c_13), ht⟩) (fun q h => nomatch h) dX3_obstacle_17
theorem go_1 {st lo th : Int32} {bm : Bm} {km : Rw} {qm : Tk} {bd : Int32} {ym : Tk} : (FX3_goOn st lo th bm km qm bd ym).1 = ym.1 + 1 := by
  unfold FX3_goOn; dsimp only; repeat' split
  all_goals rfl
theorem go_b {st lo th : Int32} {bm : Bm} {km : Rw} {qm : Tk} {bd : Int32} {ym : Tk} (h : isB ym.2.2.2) : isB (FX3_goOn st lo th bm km qm bd ym).2.2.2 := by
  unfold FX3_goOn; dsimp only; repeat' split
  · exact Or.inr rfl
  · exact Or.inl rfl
  · exact h
theorem go_s {st lo th : Int32} {bm : Bm} {km : Rw} {qm : Tk} {bd : Int32} {ym : Tk} : (FX3_goOn st lo th bm km qm bd ym).2.1 = ym.2.1 ∧ (FX3_goOn st lo th bm km qm bd ym).2.2.1 = ym.2.2.1 := by
  unfold FX3_goOn; dsimp only; repeat' split
  all_goals exact ⟨rfl, rfl⟩
theorem go_o {st lo th : Int32} {bm : Bm} {km : Rw} {qm : Tk} {bd : Int32} {ym : Tk} (ho : oOk ym.1 km.2) (hT : tOk ym.1) : oOk (FX3_goOn st lo th bm km qm bd ym).1 km.2 := by
  have e := t_1 hT (go_1 (st := st) (lo := lo) (th := th) (bm := bm) (km := km) (qm := qm) (bd := bd) (ym := ym))
  obtain ⟨h1, h2, h3, h4⟩ := ho
  have h5 := hT.2
  exact ⟨by omega, by omega, h3, h4⟩
theorem go_y {st lo th : Int32} {bm : Bm} {km : Rw} {qm : Tk} {bd : Int32} {ym : Tk} (hY : yOk km ym) (hT : tOk ym.1) : yOk km (FX3_goOn st lo th bm km qm bd ym) := ⟨go_o hY.1 hT, go_b hY.2⟩
theorem go_yE {st lo th : Int32} {bm : Bm} {km : Rw} {qm : Tk} {bd : Int32} {ym : Tk} {u : Tk} (hY : yOk km ym) (hT : tOk ym.1) (e : u = FX3_goOn st lo th bm km qm bd ym) : yOk km u := by rw [e]; exact go_y hY hT
theorem go_yT {st lo th : Int32} {bm : Bm} {km : Rw} {qm : Tk} {bd : Int32} {ym : Tk} {u : Tk} {x : Int32} (hY : yOk km ym) (hT : tOk ym.1) (e : u = FX3_goOn st lo th bm km qm bd ym) : yOk km (u.1, u.2.1, x, u.2.2.2) := ⟨(go_yE hY hT e).1, (go_yE hY hT e).2⟩
theorem ob_lt {st lo th : Int32} {bm : Bm} {km : Rw} {qm : Tk} {bd : Int32} {ym : Tk} {r : Int32} (e : r = FX3_obstacle st lo th bm km qm bd ym) (h : 0 ≤ r) : ym.1 / 8 < km.2 := by
  rw [e] at h
  unfold FX3_obstacle at h; dsimp only at h
  by_cases c : (ym.1 / 8) < km.2
  · exact c
  · rw [if_neg c] at h; exact absurd h (by decide)
theorem ob_t {st lo th : Int32} {bm : Bm} {km : Rw} {qm : Tk} {bd : Int32} {ym : Tk} {r : Int32} (hY : yOk km ym) (e : r = FX3_obstacle st lo th bm km qm bd ym) (h : 0 ≤ r) : tOk ym.1 := lt_t hY.1 (ob_lt e h)
theorem st_y {st lo th : Int32} {bm : Bm} {km : Rw} {qm : Tk} {bd : Int32} {ym : Tk} {r : Int32} {u y : Tk} (hY : yOk km ym) (e : r = FX3_obstacle st lo th bm km qm bd ym) (h : 0 ≤ r) (c : ym.1 - ym.1 / 8 * 8 = 0) (hu : u = FX3_goOn st lo th bm km qm bd y) (hy1 : y.1 = ym.1) (hy2 : y.2.2.2 = ym.2.2.2) : yOk km u ∧ tOk u.1 := by
  have hT := ob_t hY e h
  have hT' : tOk y.1 := by rw [hy1]; exact hT
  have hY' : yOk km y := ⟨by rw [hy1]; exact hY.1, by rw [hy2]; exact hY.2⟩
  refine ⟨by rw [hu]; exact go_y hY' hT', ?_⟩
  have e1 : u.1.toInt = y.1.toInt + 1 := t_1 hT' (by rw [hu, go_1])
  rw [hy1] at e1
  have e2 := rem8 hT.1
  rw [c, i0] at e2
  have h1 := hT.1; have h2 := hT.2
  exact ⟨by omega, by omega⟩
def LX3_tryBit_191 (st : Int32) (lo : Int32) (th : Int32) (bm : Bm) (km : Rw) (qm : Tk) (bd : Int32) (ym : Tk) (bt : Int32) : Int32 × Tk :=
  if (ym.1 / 8) < km.2 then
    let r_1 := FX3_bitAt st lo th bm km qm bd ym ym.1
    if r_1 = 1 then
      ((-3), ym)
    else
      let f_3 := ym.2.1 + 1
      let u_5 := FX3_goOn st lo th bm km qm bd (ym.1, f_3, 0, ym.2.2.2)
      (bt, u_5)
  else
    ((-1), ym)
def LX3_tryBit_155 (st : Int32) (lo : Int32) (th : Int32) (bm : Bm) (km : Rw) (qm : Tk) (bd : Int32) (ym : Tk) (bt : Int32) (la : Int32) : Int32 × Tk :=
  if st ≤ 1 then
    if la = 0 then
      (bt, ym)
    else
      LX3_tryBit_191 st lo th bm km qm bd ym bt
  else
    if ym.2.2.1 = st then
      if la = 0 then
        LX3_tryBit_191 st lo th bm km qm bd ym bt
      else
        LX3_tryBit_191 st lo th bm km qm bd ym bt
    else
      if la = 0 then
        (bt, ym)
      else
        LX3_tryBit_191 st lo th bm km qm bd ym bt
def LX3_tryBit_132 (st : Int32) (lo : Int32) (th : Int32) (bm : Bm) (km : Rw) (qm : Tk) (bd : Int32) (ym : Tk) (bt : Int32) (la : Int32) : Int32 × Tk :=
  let u_2 := FX3_goOn st lo th bm km qm bd ym
  if bt = 1 then
    let f_3 := u_2.2.2.1 + 1
    LX3_tryBit_155 st lo th bm km qm bd (u_2.1, u_2.2.1, f_3, u_2.2.2.2) bt la
  else
    LX3_tryBit_155 st lo th bm km qm bd (u_2.1, u_2.2.1, 0, u_2.2.2.2) bt la
def LX3_tryBit_82 (st : Int32) (lo : Int32) (th : Int32) (bm : Bm) (km : Rw) (qm : Tk) (bd : Int32) (ym : Tk) : Int32 × Tk :=
  let r_1 := FX3_bitAt st lo th bm km qm bd ym ym.1
  if st = 1 then
    if lo = 0 then
      LX3_tryBit_132 st lo th bm km qm bd ym r_1 0
    else
      if ym.2.2.2 = 0 then
        LX3_tryBit_132 st lo th bm km qm bd ym r_1 0
      else
        if (ym.1 - ym.1 / 8 * 8) = 6 then
          LX3_tryBit_132 st lo th bm km qm bd ym r_1 1
        else
          LX3_tryBit_132 st lo th bm km qm bd ym r_1 0
  else
    LX3_tryBit_132 st lo th bm km qm bd ym r_1 0
def FX3_tryBit (st : Int32) (lo : Int32) (th : Int32) (bm : Bm) (km : Rw) (qm : Tk) (bd : Int32) (ym : Tk) : Int32 × Tk :=
  let r_1 := FX3_obstacle st lo th bm km qm bd ym
  if 0 ≤ r_1 then
    if (ym.1 - ym.1 / 8 * 8) = 0 then
      if st = 1 then
        if lo = 0 then
          if ym.2.2.2 = 0 then
            LX3_tryBit_82 st lo th bm km qm bd ym
          else
            let r_3 := FX3_bitAt st lo th bm km qm bd ym ym.1
            if r_3 = 1 then
              ((-3), ym)
            else
              let f_5 := ym.2.1 + 1
              let u_7 := FX3_goOn st lo th bm km qm bd (ym.1, f_5, ym.2.2.1, ym.2.2.2)
              LX3_tryBit_82 st lo th bm km qm bd u_7
        else
          LX3_tryBit_82 st lo th bm km qm bd ym
      else
        LX3_tryBit_82 st lo th bm km qm bd ym
    else
      if st = 1 then
        if lo = 0 then
          if ym.2.2.2 = 0 then
            LX3_tryBit_82 st lo th bm km qm bd ym
          else
            LX3_tryBit_82 st lo th bm km qm bd ym
        else
          LX3_tryBit_82 st lo th bm km qm bd ym
      else
        LX3_tryBit_82 st lo th bm km qm bd ym
  else
    (r_1, ym)
set_option maxRecDepth 100000 in
theorem plX3_tryBit_l191_0 (st : Int32) (lo : Int32) (th : Int32) (bm : Bm) (km : Rw) (qm : Tk) (bd : Int32) (ym : Tk) (bt : Int32) (c_202 : (ym.1 / 8) < km.2) (r_1 : Int32) (hw_2 : r_1 = FX3_bitAt st lo th bm km qm bd ym ym.1) (c_216 : ¬ (r_1 = 1)) (f_3 : Int32) (ef_3 : f_3 = ym.2.1 + 1) (u_5 : Tk) (hw_4 : u_5 = FX3_goOn st lo th bm km qm bd (ym.1, f_3, 0, ym.2.2.2)) : (bt, u_5) = LX3_tryBit_191 st lo th bm km qm bd ym bt := by
  subst hw_2
  subst ef_3
  subst hw_4
  exact ((if_pos c_202).trans (if_neg c_216)).symm
set_option maxRecDepth 100000 in
theorem plX3_tryBit_l191_1 (st : Int32) (lo : Int32) (th : Int32) (bm : Bm) (km : Rw) (qm : Tk) (bd : Int32) (ym : Tk) (bt : Int32) (c_202 : (ym.1 / 8) < km.2) (r_1 : Int32) (hw_2 : r_1 = FX3_bitAt st lo th bm km qm bd ym ym.1) (c_216 : r_1 = 1) : ((-3), ym) = LX3_tryBit_191 st lo th bm km qm bd ym bt := by
  subst hw_2
  exact ((if_pos c_202).trans (if_pos c_216)).symm
set_option maxRecDepth 100000 in
theorem plX3_tryBit_l191_2 (st : Int32) (lo : Int32) (th : Int32) (bm : Bm) (km : Rw) (qm : Tk) (bd : Int32) (ym : Tk) (bt : Int32) (c_202 : ¬ ((ym.1 / 8) < km.2)) : ((-1), ym) = LX3_tryBit_191 st lo th bm km qm bd ym bt := by
  exact (if_neg c_202).symm
set_option maxRecDepth 100000 in
theorem plX3_tryBit_l155_0 (st : Int32) (lo : Int32) (th : Int32) (bm : Bm) (km : Rw) (qm : Tk) (bd : Int32) (ym : Tk) (bt : Int32) (la : Int32) (c_160 : st ≤ 1) (c_183 : ¬ (la = 0)) : LX3_tryBit_191 st lo th bm km qm bd ym bt = LX3_tryBit_155 st lo th bm km qm bd ym bt la := by
  exact ((if_pos c_160).trans (if_neg c_183)).symm
set_option maxRecDepth 100000 in
theorem plX3_tryBit_l155_1 (st : Int32) (lo : Int32) (th : Int32) (bm : Bm) (km : Rw) (qm : Tk) (bd : Int32) (ym : Tk) (bt : Int32) (la : Int32) (c_160 : st ≤ 1) (c_183 : la = 0) : (bt, ym) = LX3_tryBit_155 st lo th bm km qm bd ym bt la := by
  exact ((if_pos c_160).trans (if_pos c_183)).symm
set_option maxRecDepth 100000 in
theorem plX3_tryBit_l155_2 (st : Int32) (lo : Int32) (th : Int32) (bm : Bm) (km : Rw) (qm : Tk) (bd : Int32) (ym : Tk) (bt : Int32) (la : Int32) (c_160 : ¬ (st ≤ 1)) (c_171 : ¬ (ym.2.2.1 = st)) (c_183 : ¬ (la = 0)) : LX3_tryBit_191 st lo th bm km qm bd ym bt = LX3_tryBit_155 st lo th bm km qm bd ym bt la := by
  exact (((if_neg c_160).trans (if_neg c_171)).trans (if_neg c_183)).symm
set_option maxRecDepth 100000 in
theorem plX3_tryBit_l155_3 (st : Int32) (lo : Int32) (th : Int32) (bm : Bm) (km : Rw) (qm : Tk) (bd : Int32) (ym : Tk) (bt : Int32) (la : Int32) (c_160 : ¬ (st ≤ 1)) (c_171 : ¬ (ym.2.2.1 = st)) (c_183 : la = 0) : (bt, ym) = LX3_tryBit_155 st lo th bm km qm bd ym bt la := by
  exact (((if_neg c_160).trans (if_neg c_171)).trans (if_pos c_183)).symm
set_option maxRecDepth 100000 in
theorem plX3_tryBit_l155_4 (st : Int32) (lo : Int32) (th : Int32) (bm : Bm) (km : Rw) (qm : Tk) (bd : Int32) (ym : Tk) (bt : Int32) (la : Int32) (c_160 : ¬ (st ≤ 1)) (c_171 : ym.2.2.1 = st) (c_183 : ¬ (la = 0)) : LX3_tryBit_191 st lo th bm km qm bd ym bt = LX3_tryBit_155 st lo th bm km qm bd ym bt la := by
  exact (((if_neg c_160).trans (if_pos c_171)).trans (if_neg c_183)).symm
set_option maxRecDepth 100000 in
theorem plX3_tryBit_l155_5 (st : Int32) (lo : Int32) (th : Int32) (bm : Bm) (km : Rw) (qm : Tk) (bd : Int32) (ym : Tk) (bt : Int32) (la : Int32) (c_160 : ¬ (st ≤ 1)) (c_171 : ym.2.2.1 = st) (c_183 : la = 0) : LX3_tryBit_191 st lo th bm km qm bd ym bt = LX3_tryBit_155 st lo th bm km qm bd ym bt la := by
  exact (((if_neg c_160).trans (if_pos c_171)).trans (if_pos c_183)).symm
set_option maxRecDepth 100000 in
theorem plX3_tryBit_l132_0 (st : Int32) (lo : Int32) (th : Int32) (bm : Bm) (km : Rw) (qm : Tk) (bd : Int32) (ym : Tk) (bt : Int32) (la : Int32) (u_2 : Tk) (hw_1 : u_2 = FX3_goOn st lo th bm km qm bd ym) (c_139 : ¬ (bt = 1)) : LX3_tryBit_155 st lo th bm km qm bd (u_2.1, u_2.2.1, 0, u_2.2.2.2) bt la = LX3_tryBit_132 st lo th bm km qm bd ym bt la := by
  subst hw_1
  exact (if_neg c_139).symm
set_option maxRecDepth 100000 in
theorem plX3_tryBit_l132_1 (st : Int32) (lo : Int32) (th : Int32) (bm : Bm) (km : Rw) (qm : Tk) (bd : Int32) (ym : Tk) (bt : Int32) (la : Int32) (u_2 : Tk) (hw_1 : u_2 = FX3_goOn st lo th bm km qm bd ym) (c_139 : bt = 1) (f_3 : Int32) (ef_3 : f_3 = u_2.2.2.1 + 1) : LX3_tryBit_155 st lo th bm km qm bd (u_2.1, u_2.2.1, f_3, u_2.2.2.2) bt la = LX3_tryBit_132 st lo th bm km qm bd ym bt la := by
  subst hw_1
  subst ef_3
  exact (if_pos c_139).symm
set_option maxRecDepth 100000 in
theorem plX3_tryBit_l82_0 (st : Int32) (lo : Int32) (th : Int32) (bm : Bm) (km : Rw) (qm : Tk) (bd : Int32) (ym : Tk) (r_1 : Int32) (hw_2 : r_1 = FX3_bitAt st lo th bm km qm bd ym ym.1) (c_96 : ¬ (st = 1)) : LX3_tryBit_132 st lo th bm km qm bd ym r_1 0 = LX3_tryBit_82 st lo th bm km qm bd ym := by
  subst hw_2
  exact (if_neg c_96).symm
set_option maxRecDepth 100000 in
theorem plX3_tryBit_l82_1 (st : Int32) (lo : Int32) (th : Int32) (bm : Bm) (km : Rw) (qm : Tk) (bd : Int32) (ym : Tk) (r_1 : Int32) (hw_2 : r_1 = FX3_bitAt st lo th bm km qm bd ym ym.1) (c_96 : st = 1) (c_103 : lo = 0) : LX3_tryBit_132 st lo th bm km qm bd ym r_1 0 = LX3_tryBit_82 st lo th bm km qm bd ym := by
  subst hw_2
  exact ((if_pos c_96).trans (if_pos c_103)).symm
set_option maxRecDepth 100000 in
theorem plX3_tryBit_l82_2 (st : Int32) (lo : Int32) (th : Int32) (bm : Bm) (km : Rw) (qm : Tk) (bd : Int32) (ym : Tk) (r_1 : Int32) (hw_2 : r_1 = FX3_bitAt st lo th bm km qm bd ym ym.1) (c_96 : st = 1) (c_103 : ¬ (lo = 0)) (c_110 : ym.2.2.2 = 0) : LX3_tryBit_132 st lo th bm km qm bd ym r_1 0 = LX3_tryBit_82 st lo th bm km qm bd ym := by
  subst hw_2
  exact (((if_pos c_96).trans (if_neg c_103)).trans (if_pos c_110)).symm
set_option maxRecDepth 100000 in
theorem plX3_tryBit_l82_3 (st : Int32) (lo : Int32) (th : Int32) (bm : Bm) (km : Rw) (qm : Tk) (bd : Int32) (ym : Tk) (r_1 : Int32) (hw_2 : r_1 = FX3_bitAt st lo th bm km qm bd ym ym.1) (c_96 : st = 1) (c_103 : ¬ (lo = 0)) (c_110 : ¬ (ym.2.2.2 = 0)) (c_122 : ¬ ((ym.1 - ym.1 / 8 * 8) = 6)) : LX3_tryBit_132 st lo th bm km qm bd ym r_1 0 = LX3_tryBit_82 st lo th bm km qm bd ym := by
  subst hw_2
  exact ((((if_pos c_96).trans (if_neg c_103)).trans (if_neg c_110)).trans (if_neg c_122)).symm
set_option maxRecDepth 100000 in
theorem plX3_tryBit_l82_4 (st : Int32) (lo : Int32) (th : Int32) (bm : Bm) (km : Rw) (qm : Tk) (bd : Int32) (ym : Tk) (r_1 : Int32) (hw_2 : r_1 = FX3_bitAt st lo th bm km qm bd ym ym.1) (c_96 : st = 1) (c_103 : ¬ (lo = 0)) (c_110 : ¬ (ym.2.2.2 = 0)) (c_122 : (ym.1 - ym.1 / 8 * 8) = 6) : LX3_tryBit_132 st lo th bm km qm bd ym r_1 1 = LX3_tryBit_82 st lo th bm km qm bd ym := by
  subst hw_2
  exact ((((if_pos c_96).trans (if_neg c_103)).trans (if_neg c_110)).trans (if_pos c_122)).symm
set_option maxRecDepth 100000 in
theorem plX3_tryBit_0 (st : Int32) (lo : Int32) (th : Int32) (bm : Bm) (km : Rw) (qm : Tk) (bd : Int32) (ym : Tk) (r_1 : Int32) (hw_2 : r_1 = FX3_obstacle st lo th bm km qm bd ym) (c_6 : 0 ≤ r_1) (c_18 : ¬ ((ym.1 - ym.1 / 8 * 8) = 0)) (c_32 : ¬ (st = 1)) : LX3_tryBit_82 st lo th bm km qm bd ym = FX3_tryBit st lo th bm km qm bd ym := by
  subst hw_2
  exact (((if_pos c_6).trans (if_neg c_18)).trans (if_neg c_32)).symm
set_option maxRecDepth 100000 in
theorem plX3_tryBit_1 (st : Int32) (lo : Int32) (th : Int32) (bm : Bm) (km : Rw) (qm : Tk) (bd : Int32) (ym : Tk) (r_1 : Int32) (hw_2 : r_1 = FX3_obstacle st lo th bm km qm bd ym) (c_6 : 0 ≤ r_1) (c_18 : ¬ ((ym.1 - ym.1 / 8 * 8) = 0)) (c_32 : st = 1) (c_39 : ¬ (lo = 0)) : LX3_tryBit_82 st lo th bm km qm bd ym = FX3_tryBit st lo th bm km qm bd ym := by
  subst hw_2
  exact ((((if_pos c_6).trans (if_neg c_18)).trans (if_pos c_32)).trans (if_neg c_39)).symm
set_option maxRecDepth 100000 in
theorem plX3_tryBit_2 (st : Int32) (lo : Int32) (th : Int32) (bm : Bm) (km : Rw) (qm : Tk) (bd : Int32) (ym : Tk) (r_1 : Int32) (hw_2 : r_1 = FX3_obstacle st lo th bm km qm bd ym) (c_6 : 0 ≤ r_1) (c_18 : ¬ ((ym.1 - ym.1 / 8 * 8) = 0)) (c_32 : st = 1) (c_39 : lo = 0) (c_46 : ym.2.2.2 = 0) : LX3_tryBit_82 st lo th bm km qm bd ym = FX3_tryBit st lo th bm km qm bd ym := by
  subst hw_2
  exact (((((if_pos c_6).trans (if_neg c_18)).trans (if_pos c_32)).trans (if_pos c_39)).trans (if_pos c_46)).symm
set_option maxRecDepth 100000 in
theorem plX3_tryBit_3 (st : Int32) (lo : Int32) (th : Int32) (bm : Bm) (km : Rw) (qm : Tk) (bd : Int32) (ym : Tk) (r_1 : Int32) (hw_2 : r_1 = FX3_obstacle st lo th bm km qm bd ym) (c_6 : 0 ≤ r_1) (c_18 : ¬ ((ym.1 - ym.1 / 8 * 8) = 0)) (c_32 : st = 1) (c_39 : lo = 0) (c_46 : ¬ (ym.2.2.2 = 0)) : LX3_tryBit_82 st lo th bm km qm bd ym = FX3_tryBit st lo th bm km qm bd ym := by
  subst hw_2
  exact (((((if_pos c_6).trans (if_neg c_18)).trans (if_pos c_32)).trans (if_pos c_39)).trans (if_neg c_46)).symm
set_option maxRecDepth 100000 in
theorem plX3_tryBit_4 (st : Int32) (lo : Int32) (th : Int32) (bm : Bm) (km : Rw) (qm : Tk) (bd : Int32) (ym : Tk) (r_1 : Int32) (hw_2 : r_1 = FX3_obstacle st lo th bm km qm bd ym) (c_6 : 0 ≤ r_1) (c_18 : (ym.1 - ym.1 / 8 * 8) = 0) (c_32 : ¬ (st = 1)) : LX3_tryBit_82 st lo th bm km qm bd ym = FX3_tryBit st lo th bm km qm bd ym := by
  subst hw_2
  exact (((if_pos c_6).trans (if_pos c_18)).trans (if_neg c_32)).symm
set_option maxRecDepth 100000 in
theorem plX3_tryBit_5 (st : Int32) (lo : Int32) (th : Int32) (bm : Bm) (km : Rw) (qm : Tk) (bd : Int32) (ym : Tk) (r_1 : Int32) (hw_2 : r_1 = FX3_obstacle st lo th bm km qm bd ym) (c_6 : 0 ≤ r_1) (c_18 : (ym.1 - ym.1 / 8 * 8) = 0) (c_32 : st = 1) (c_39 : ¬ (lo = 0)) : LX3_tryBit_82 st lo th bm km qm bd ym = FX3_tryBit st lo th bm km qm bd ym := by
  subst hw_2
  exact ((((if_pos c_6).trans (if_pos c_18)).trans (if_pos c_32)).trans (if_neg c_39)).symm
set_option maxRecDepth 100000 in
theorem plX3_tryBit_6 (st : Int32) (lo : Int32) (th : Int32) (bm : Bm) (km : Rw) (qm : Tk) (bd : Int32) (ym : Tk) (r_1 : Int32) (hw_2 : r_1 = FX3_obstacle st lo th bm km qm bd ym) (c_6 : 0 ≤ r_1) (c_18 : (ym.1 - ym.1 / 8 * 8) = 0) (c_32 : st = 1) (c_39 : lo = 0) (c_46 : ym.2.2.2 = 0) : LX3_tryBit_82 st lo th bm km qm bd ym = FX3_tryBit st lo th bm km qm bd ym := by
  subst hw_2
  exact (((((if_pos c_6).trans (if_pos c_18)).trans (if_pos c_32)).trans (if_pos c_39)).trans (if_pos c_46)).symm
set_option maxRecDepth 100000 in
theorem plX3_tryBit_7 (st : Int32) (lo : Int32) (th : Int32) (bm : Bm) (km : Rw) (qm : Tk) (bd : Int32) (ym : Tk) (r_1 : Int32) (hw_2 : r_1 = FX3_obstacle st lo th bm km qm bd ym) (c_6 : 0 ≤ r_1) (c_18 : (ym.1 - ym.1 / 8 * 8) = 0) (c_32 : st = 1) (c_39 : lo = 0) (c_46 : ¬ (ym.2.2.2 = 0)) (r_3 : Int32) (hw_4 : r_3 = FX3_bitAt st lo th bm km qm bd ym ym.1) (c_62 : ¬ (r_3 = 1)) (f_5 : Int32) (ef_5 : f_5 = ym.2.1 + 1) (u_7 : Tk) (hw_6 : u_7 = FX3_goOn st lo th bm km qm bd (ym.1, f_5, ym.2.2.1, ym.2.2.2)) : LX3_tryBit_82 st lo th bm km qm bd u_7 = FX3_tryBit st lo th bm km qm bd ym := by
  subst hw_2
  subst hw_4
  subst ef_5
  subst hw_6
  exact ((((((if_pos c_6).trans (if_pos c_18)).trans (if_pos c_32)).trans (if_pos c_39)).trans (if_neg c_46)).trans (if_neg c_62)).symm
set_option maxRecDepth 100000 in
theorem plX3_tryBit_8 (st : Int32) (lo : Int32) (th : Int32) (bm : Bm) (km : Rw) (qm : Tk) (bd : Int32) (ym : Tk) (r_1 : Int32) (hw_2 : r_1 = FX3_obstacle st lo th bm km qm bd ym) (c_6 : 0 ≤ r_1) (c_18 : (ym.1 - ym.1 / 8 * 8) = 0) (c_32 : st = 1) (c_39 : lo = 0) (c_46 : ¬ (ym.2.2.2 = 0)) (r_3 : Int32) (hw_4 : r_3 = FX3_bitAt st lo th bm km qm bd ym ym.1) (c_62 : r_3 = 1) : ((-3), ym) = FX3_tryBit st lo th bm km qm bd ym := by
  subst hw_2
  subst hw_4
  exact ((((((if_pos c_6).trans (if_pos c_18)).trans (if_pos c_32)).trans (if_pos c_39)).trans (if_neg c_46)).trans (if_pos c_62)).symm
set_option maxRecDepth 100000 in
theorem plX3_tryBit_9 (st : Int32) (lo : Int32) (th : Int32) (bm : Bm) (km : Rw) (qm : Tk) (bd : Int32) (ym : Tk) (r_1 : Int32) (hw_2 : r_1 = FX3_obstacle st lo th bm km qm bd ym) (c_6 : ¬ (0 ≤ r_1)) : (r_1, ym) = FX3_tryBit st lo th bm km qm bd ym := by
  subst hw_2
  exact (if_neg c_6).symm
set_option maxHeartbeats 4000000 in
set_option maxRecDepth 100000 in
theorem kX3_tryBit_191 {p : Program} {l : Launch} {e : Env} {s : State} {m : MethodId} {args : Array Value} {below : List Frame} {meth : Method} {c : Code} {dC : Nat → ClassId} {dI : Nat → Nat → Nat} {cZ cK : ClassId} {om ob ok : Nat} {st : Int32} {lo : Int32} {z : Int32 × Tk} {A : Nat → Prop} (hx : p.tables.exec = Jvm.exec) (hb : c.code = cX3_tryBit) (hr : meth.sig.returnType = (some .int)) (hml : c.maxLocals = 6) (hown : s.vm.findClass RX3 = some m.cls) (hts : ∀ w ∈ G, w.before args s = true) (hlocks : meth.locks = false) (hA : ∀ q : Nat, s.heap.size ≤ q → A q) (hZ : zOk s) (hK : va_K (dC, dI) vwCl [(cZ, .boolean), (cK, .int)] s) : ∀ (th : Int32) (bm : Bm) (km : Rw) (qm : Tk) (bd : Int32) (ym : Tk) (bt : Int32), (yOk km ym) → LX3_tryBit_191 st lo th bm km qm bd ym bt = z → ∀ (H : Heap) (locs : List Loc), va_P (dC, dI) vwCl [(om, .inr (3, [.int th, .int st, .int lo, .ref ob, .int bm.2.1, .int bm.2.2.1, .int bm.2.2.2.1, .int bm.2.2.2.2, .ref ok, .int km.2, .int qm.1, .int qm.2.1, .int qm.2.2.1, .int qm.2.2.2, .int bd, .int ym.1, .int ym.2.1, .int ym.2.2.1, .int ym.2.2.2])), (ob, .inl (cZ, 5200, .inl bm.1)), (ok, .inl (cK, 600, .inl km.1))] H → va_D A [(om, .inr (3, [.int th, .int st, .int lo, .ref ob, .int bm.2.1, .int bm.2.2.1, .int bm.2.2.2.1, .int bm.2.2.2.2, .ref ok, .int km.2, .int qm.1, .int qm.2.1, .int qm.2.2.1, .int qm.2.2.2, .int bd, .int ym.1, .int ym.2.1, .int ym.2.2.1, .int ym.2.2.2])), (ob, .inl (cZ, 5200, .inl bm.1)), (ok, .inl (cK, 600, .inl km.1))] → va_S A s.heap H locs → ∀ (ls : Array Slot), lv_has ls 6 [(0, .ref om), (3, .int bt)] → W p l e (headSpec (Cond.code yX3_tryBit cX3_tryBit 6 (some .int) :: G) ({ frames := 1, cells := 0, slots := 0, locals := 22 } : Room)).room s m args below meth c H locs 0 0 (MQ below (va_Qi (fun (r : Int32) (u : Tk) => (r, u) = z) (fun (u : Tk) (t : State) => va_P (dC, dI) vwCl [(om, .inr (3, [.int th, .int st, .int lo, .ref ob, .int bm.2.1, .int bm.2.2.1, .int bm.2.2.2.1, .int bm.2.2.2.2, .ref ok, .int km.2, .int qm.1, .int qm.2.1, .int qm.2.2.1, .int qm.2.2.2, .int bd, .int u.1, .int u.2.1, .int u.2.2.1, .int u.2.2.2])), (ob, .inl (cZ, 5200, .inl bm.1)), (ok, .inl (cK, 600, .inl km.1))] t.heap ∧ va_D A [(om, .inr (3, [.int th, .int st, .int lo, .ref ob, .int bm.2.1, .int bm.2.2.1, .int bm.2.2.2.1, .int bm.2.2.2.2, .ref ok, .int km.2, .int qm.1, .int qm.2.1, .int qm.2.2.1, .int qm.2.2.2, .int bd, .int u.1, .int u.2.1, .int u.2.2.1, .int u.2.2.2])), (ob, .inl (cZ, 5200, .inl bm.1)), (ok, .inl (cK, 600, .inl km.1))]) A) args s 0 0 A) (F0 m 191 ls []) := by
  intro th bm km qm bd ym bt hY hz H locs hP hD hS ls hl
  refine lv_aload_n hx hb dX3_tryBit_191 rfl (lv_at hl 0 rfl) ?_
  refine va_get (D := (dC, dI)) (ci := 3) (v := .int ym.1) (C := RX3) (T := TX3) (N := 19) hx hb hts inGX3 hown hK hP 0 rfl rfl 15 (by decide) (hts _ wd452) (fun _ h9 => h9) rfl dX3_tryBit_192 ?_
  refine lv_bipush (v := 8) hx hb dX3_tryBit_195 (by decide) ?_
  refine lv_idiv hx hb dX3_tryBit_197 (by decide) ?_
  refine lv_aload_n hx hb dX3_tryBit_198 rfl (lv_at hl 0 rfl) ?_
  refine va_get (D := (dC, dI)) (ci := 3) (v := .int km.2) (C := RX3) (T := TX3) (N := 19) hx hb hts inGX3 hown hK hP 0 rfl rfl 9 (by decide) (hts _ wd446) (fun _ h9 => h9) rfl dX3_tryBit_199 ?_
  refine lv_icmp_lt (tgt := 207) hx hb dX3_tryBit_202 (by decide) (fun c_202 => ?_) (fun c_202 => ?_)
  · refine lv_aload_n hx hb dX3_tryBit_207 rfl (lv_at hl 0 rfl) ?_
    refine lv_aload_n hx hb dX3_tryBit_208 rfl (lv_at hl 0 rfl) ?_
    refine va_get (D := (dC, dI)) (ci := 3) (v := .int ym.1) (C := RX3) (T := TX3) (N := 19) hx hb hts inGX3 hown hK hP 0 rfl rfl 15 (by decide) (hts _ wd452) (fun _ h9 => h9) rfl dX3_tryBit_209 ?_
    have hPc := hP.sub (ws' := [(om, .inr (3, [.int th, .int st, .int lo, .ref ob, .int bm.2.1, .int bm.2.2.1, .int bm.2.2.2.1, .int bm.2.2.2.2, .ref ok, .int km.2, .int qm.1, .int qm.2.1, .int qm.2.2.1, .int qm.2.2.2, .int bd, .int ym.1, .int ym.2.1, .int ym.2.2.1, .int ym.2.2.2])), (ob, .inl (cZ, 5200, .inl bm.1)), (ok, .inl (cK, 600, .inl km.1))]) [0, 1, 2] rfl
    have hKc := hK.sub (tys' := [(cZ, .boolean), (cK, .int)]) [0, 1] rfl
    refine vp_callSi (va_Run.run (va_runV (As := [.int ym.1]) (rest := []) ⟨hx, hb, hml, hown, hts⟩ (mX3_bitAt l dC dI cZ cK om ob ok st lo th bm km qm bd ym ym.1 (t_in (lt_t hY.1 c_202))) (cwV 1 hts (gV wd569 wd570 wd21 wd30 wd571) rfl rfl rfl (by decide +kernel) ⟨Nat.le_of_ble_eq_true rfl, Nat.le_of_ble_eq_true rfl⟩) ⟨fb_ro, va_recv hKc hPc (ci := 3) (q0 := 0) rfl rfl, pre_ro hPc hKc hZ⟩ rfl rfl hl.1 rfl (lv_room (Nat.le_of_ble_eq_true rfl)) dX3_tryBit_212 ⟨Nat.le_of_ble_eq_true rfl, Nat.le_of_ble_eq_true rfl⟩)) (fun r_1 hw_2 => ?_)
    refine lv_iconst (v := 1) hx hb dX3_tryBit_215 (by decide) ?_
    refine lv_icmp_ne (tgt := 222) hx hb dX3_tryBit_216 (by decide) (fun c_216 => ?_) (fun c_216 => ?_)
    · refine lv_aload_n hx hb dX3_tryBit_222 rfl (lv_at hl 0 rfl) ?_
      refine lv_dup hx hb dX3_tryBit_223 rfl ?_
      refine va_get (D := (dC, dI)) (ci := 3) (v := .int ym.2.1) (C := RX3) (T := TX3) (N := 19) hx hb hts inGX3 hown hK hP 0 rfl rfl 16 (by decide) (hts _ wd453) (fun _ h9 => h9) rfl dX3_tryBit_224 ?_
      refine lv_iconst (v := 1) hx hb dX3_tryBit_227 (by decide) ?_
      refine lv_iadd hx hb dX3_tryBit_228 ?_
      refine lv_topi (fun f_3 ef_3 => ?_)
      refine va_put (D := (dC, dI)) (ci := 3) (v := .int f_3) (ty := .int) (C := RX3) (T := TX3) (N := 19) hx hb hts inGX3 tyX3 tyX3_ok nmX3 hown hK hP hD hS 0 rfl rfl 16 (by decide) (hts _ wd453) (fun _ h9 => h9) rfl (by decide +kernel) rfl rfl (Nat.le_of_ble_eq_true rfl) dX3_tryBit_229 (fun H locs hP hD hS => ?_)
      have hP : va_P (dC, dI) vwCl [(om, .inr (3, [.int th, .int st, .int lo, .ref ob, .int bm.2.1, .int bm.2.2.1, .int bm.2.2.2.1, .int bm.2.2.2.2, .ref ok, .int km.2, .int qm.1, .int qm.2.1, .int qm.2.2.1, .int qm.2.2.2, .int bd, .int ym.1, .int f_3, .int ym.2.2.1, .int ym.2.2.2])), (ob, .inl (cZ, 5200, .inl bm.1)), (ok, .inl (cK, 600, .inl km.1))] H := hP
      have hD : va_D A [(om, .inr (3, [.int th, .int st, .int lo, .ref ob, .int bm.2.1, .int bm.2.2.1, .int bm.2.2.2.1, .int bm.2.2.2.2, .ref ok, .int km.2, .int qm.1, .int qm.2.1, .int qm.2.2.1, .int qm.2.2.2, .int bd, .int ym.1, .int f_3, .int ym.2.2.1, .int ym.2.2.2])), (ob, .inl (cZ, 5200, .inl bm.1)), (ok, .inl (cK, 600, .inl km.1))] := hD
      refine lv_aload_n hx hb dX3_tryBit_232 rfl (lv_at hl 0 rfl) ?_
      refine lv_iconst (v := 0) hx hb dX3_tryBit_233 (by decide) ?_
      refine va_put (D := (dC, dI)) (ci := 3) (v := .int 0) (ty := .int) (C := RX3) (T := TX3) (N := 19) hx hb hts inGX3 tyX3 tyX3_ok nmX3 hown hK hP hD hS 0 rfl rfl 17 (by decide) (hts _ wd454) (fun _ h9 => h9) rfl (by decide +kernel) rfl rfl (Nat.le_of_ble_eq_true rfl) dX3_tryBit_234 (fun H locs hP hD hS => ?_)
      have hP : va_P (dC, dI) vwCl [(om, .inr (3, [.int th, .int st, .int lo, .ref ob, .int bm.2.1, .int bm.2.2.1, .int bm.2.2.2.1, .int bm.2.2.2.2, .ref ok, .int km.2, .int qm.1, .int qm.2.1, .int qm.2.2.1, .int qm.2.2.2, .int bd, .int ym.1, .int f_3, .int 0, .int ym.2.2.2])), (ob, .inl (cZ, 5200, .inl bm.1)), (ok, .inl (cK, 600, .inl km.1))] H := hP
      have hD : va_D A [(om, .inr (3, [.int th, .int st, .int lo, .ref ob, .int bm.2.1, .int bm.2.2.1, .int bm.2.2.2.1, .int bm.2.2.2.2, .ref ok, .int km.2, .int qm.1, .int qm.2.1, .int qm.2.2.1, .int qm.2.2.2, .int bd, .int ym.1, .int f_3, .int 0, .int ym.2.2.2])), (ob, .inl (cZ, 5200, .inl bm.1)), (ok, .inl (cK, 600, .inl km.1))] := hD
      refine lv_aload_n hx hb dX3_tryBit_237 rfl (lv_at hl 0 rfl) ?_
      have hPc := hP.sub (ws' := [(om, .inr (3, [.int th, .int st, .int lo, .ref ob, .int bm.2.1, .int bm.2.2.1, .int bm.2.2.2.1, .int bm.2.2.2.2, .ref ok, .int km.2, .int qm.1, .int qm.2.1, .int qm.2.2.1, .int qm.2.2.2, .int bd, .int ym.1, .int f_3, .int 0, .int ym.2.2.2])), (ob, .inl (cZ, 5200, .inl bm.1)), (ok, .inl (cK, 600, .inl km.1))]) [0, 1, 2] rfl
      have hKc := hK.sub (tys' := [(cZ, .boolean), (cK, .int)]) [0, 1] rfl
      have hDc := hD.sub (ws' := [(om, .inr (3, [.int th, .int st, .int lo, .ref ob, .int bm.2.1, .int bm.2.2.1, .int bm.2.2.2.1, .int bm.2.2.2.2, .ref ok, .int km.2, .int qm.1, .int qm.2.1, .int qm.2.2.1, .int qm.2.2.2, .int bd, .int ym.1, .int f_3, .int 0, .int ym.2.2.2])), (ob, .inl (cZ, 5200, .inl bm.1)), (ok, .inl (cK, 600, .inl km.1))]) [0, 1, 2] (by decide) rfl
      have hFc := va_free (wc := [(om, .inr (3, [.int th, .int st, .int lo, .ref ob, .int bm.2.1, .int bm.2.2.1, .int bm.2.2.2.1, .int bm.2.2.2.2, .ref ok, .int km.2, .int qm.1, .int qm.2.1, .int qm.2.2.1, .int qm.2.2.2, .int bd, .int ym.1, .int f_3, .int 0, .int ym.2.2.2])), (ob, .inl (cZ, 5200, .inl bm.1)), (ok, .inl (cK, 600, .inl km.1))]) hD hS hA [0, 1, 2] rfl
      refine va_callv (va_runV (As := []) (rest := []) ⟨hx, hb, hml, hown, hts⟩ (mX3_goOn l dC dI cZ cK om ob ok H.size st lo th bm km qm bd (ym.1, f_3, 0, ym.2.2.2) (lt_t hY.1 c_202)) (cwV 0 hts (gV wd572 wd573 wd22 wd30 wd574) rfl rfl rfl (by decide +kernel) ⟨Nat.le_of_ble_eq_true rfl, Nat.le_of_ble_eq_true rfl⟩) ⟨fb_rw, va_recv hKc hPc (ci := 3) (q0 := 0) rfl rfl, pre_rw hPc hKc hDc hZ⟩ rfl rfl hl.1 rfl (lv_room (Nat.le_of_ble_eq_true rfl)) dX3_tryBit_238 ⟨Nat.le_of_ble_eq_true rfl, Nat.le_of_ble_eq_true rfl⟩) hS (fun q _ h => hFc q h) hFc (fun u_5 t H1 locs ht hvm hw_4 hB hz1 hk1 hS => ?_)
      obtain ⟨hP1, hD1⟩ := hB
      rw [ht] at hP1
      obtain ⟨hP, hD⟩ := va_join (wr := []) (w1 := [(om, .inr (3, [.int th, .int st, .int lo, .ref ob, .int bm.2.1, .int bm.2.2.1, .int bm.2.2.2.1, .int bm.2.2.2.2, .ref ok, .int km.2, .int qm.1, .int qm.2.1, .int qm.2.2.1, .int qm.2.2.2, .int bd, .int u_5.1, .int u_5.2.1, .int u_5.2.2.1, .int u_5.2.2.2])), (ob, .inl (cZ, 5200, .inl bm.1)), (ok, .inl (cK, 600, .inl km.1))]) hP hD [0, 1, 2] [] rfl rfl (by decide) (by decide) hk1 hFc hP1 hD1
      generalize H1 = H at hP hS ⊢
      have hP : va_P (dC, dI) vwCl [(om, .inr (3, [.int th, .int st, .int lo, .ref ob, .int bm.2.1, .int bm.2.2.1, .int bm.2.2.2.1, .int bm.2.2.2.2, .ref ok, .int km.2, .int qm.1, .int qm.2.1, .int qm.2.2.1, .int qm.2.2.2, .int bd, .int u_5.1, .int u_5.2.1, .int u_5.2.2.1, .int u_5.2.2.2])), (ob, .inl (cZ, 5200, .inl bm.1)), (ok, .inl (cK, 600, .inl km.1))] H := hP
      have hD : va_D A [(om, .inr (3, [.int th, .int st, .int lo, .ref ob, .int bm.2.1, .int bm.2.2.1, .int bm.2.2.2.1, .int bm.2.2.2.2, .ref ok, .int km.2, .int qm.1, .int qm.2.1, .int qm.2.2.1, .int qm.2.2.2, .int bd, .int u_5.1, .int u_5.2.1, .int u_5.2.2.1, .int u_5.2.2.2])), (ob, .inl (cZ, 5200, .inl bm.1)), (ok, .inl (cK, 600, .inl km.1))] := hD
      refine lv_iload_n hx hb dX3_tryBit_241 rfl (lv_at hl 1 rfl) ?_
      have hP9 := hP.sub (ws' := [(om, .inr (3, [.int th, .int st, .int lo, .ref ob, .int bm.2.1, .int bm.2.2.1, .int bm.2.2.2.1, .int bm.2.2.2.2, .ref ok, .int km.2, .int qm.1, .int qm.2.1, .int qm.2.2.1, .int qm.2.2.2, .int bd, .int u_5.1, .int u_5.2.1, .int u_5.2.2.1, .int u_5.2.2.2])), (ob, .inl (cZ, 5200, .inl bm.1)), (ok, .inl (cK, 600, .inl km.1))]) [0, 1, 2] rfl
      have hD9 := hD.sub (ws' := [(om, .inr (3, [.int th, .int st, .int lo, .ref ob, .int bm.2.1, .int bm.2.2.1, .int bm.2.2.2.1, .int bm.2.2.2.2, .ref ok, .int km.2, .int qm.1, .int qm.2.1, .int qm.2.2.1, .int qm.2.2.2, .int bd, .int u_5.1, .int u_5.2.1, .int u_5.2.2.1, .int u_5.2.2.2])), (ob, .inl (cZ, 5200, .inl bm.1)), (ok, .inl (cK, 600, .inl km.1))]) [0, 1, 2] (by decide) rfl
      exact W.iret (v := bt) hx hb hr (fun t ht hW => ⟨⟨bt, u_5, rfl, ((plX3_tryBit_l191_0 st lo th bm km qm bd ym bt c_202 _ hw_2 c_216 _ ef_3 _ hw_4).trans hz), by rw [ht]; exact hP9, hD9⟩, hS.F ht⟩) hS.2.2 dX3_tryBit_242
    · refine lv_bipush (v := (-3)) hx hb dX3_tryBit_219 (by decide) ?_
      have hP9 := hP.sub (ws' := [(om, .inr (3, [.int th, .int st, .int lo, .ref ob, .int bm.2.1, .int bm.2.2.1, .int bm.2.2.2.1, .int bm.2.2.2.2, .ref ok, .int km.2, .int qm.1, .int qm.2.1, .int qm.2.2.1, .int qm.2.2.2, .int bd, .int ym.1, .int ym.2.1, .int ym.2.2.1, .int ym.2.2.2])), (ob, .inl (cZ, 5200, .inl bm.1)), (ok, .inl (cK, 600, .inl km.1))]) [0, 1, 2] rfl
      have hD9 := hD.sub (ws' := [(om, .inr (3, [.int th, .int st, .int lo, .ref ob, .int bm.2.1, .int bm.2.2.1, .int bm.2.2.2.1, .int bm.2.2.2.2, .ref ok, .int km.2, .int qm.1, .int qm.2.1, .int qm.2.2.1, .int qm.2.2.2, .int bd, .int ym.1, .int ym.2.1, .int ym.2.2.1, .int ym.2.2.2])), (ob, .inl (cZ, 5200, .inl bm.1)), (ok, .inl (cK, 600, .inl km.1))]) [0, 1, 2] (by decide) rfl
      exact W.iret (v := (-3)) hx hb hr (fun t ht hW => ⟨⟨(-3), ym, rfl, ((plX3_tryBit_l191_1 st lo th bm km qm bd ym bt c_202 _ hw_2 c_216).trans hz), by rw [ht]; exact hP9, hD9⟩, hS.F ht⟩) hS.2.2 dX3_tryBit_221
  · refine lv_iconst (v := (-1)) hx hb dX3_tryBit_205 (by decide) ?_
    have hP9 := hP.sub (ws' := [(om, .inr (3, [.int th, .int st, .int lo, .ref ob, .int bm.2.1, .int bm.2.2.1, .int bm.2.2.2.1, .int bm.2.2.2.2, .ref ok, .int km.2, .int qm.1, .int qm.2.1, .int qm.2.2.1, .int qm.2.2.2, .int bd, .int ym.1, .int ym.2.1, .int ym.2.2.1, .int ym.2.2.2])), (ob, .inl (cZ, 5200, .inl bm.1)), (ok, .inl (cK, 600, .inl km.1))]) [0, 1, 2] rfl
    have hD9 := hD.sub (ws' := [(om, .inr (3, [.int th, .int st, .int lo, .ref ob, .int bm.2.1, .int bm.2.2.1, .int bm.2.2.2.1, .int bm.2.2.2.2, .ref ok, .int km.2, .int qm.1, .int qm.2.1, .int qm.2.2.1, .int qm.2.2.2, .int bd, .int ym.1, .int ym.2.1, .int ym.2.2.1, .int ym.2.2.2])), (ob, .inl (cZ, 5200, .inl bm.1)), (ok, .inl (cK, 600, .inl km.1))]) [0, 1, 2] (by decide) rfl
    exact W.iret (v := (-1)) hx hb hr (fun t ht hW => ⟨⟨(-1), ym, rfl, ((plX3_tryBit_l191_2 st lo th bm km qm bd ym bt c_202).trans hz), by rw [ht]; exact hP9, hD9⟩, hS.F ht⟩) hS.2.2 dX3_tryBit_206
set_option maxHeartbeats 4000000 in
set_option maxRecDepth 100000 in
theorem kX3_tryBit_155 {p : Program} {l : Launch} {e : Env} {s : State} {m : MethodId} {args : Array Value} {below : List Frame} {meth : Method} {c : Code} {dC : Nat → ClassId} {dI : Nat → Nat → Nat} {cZ cK : ClassId} {om ob ok : Nat} {st : Int32} {lo : Int32} {z : Int32 × Tk} {A : Nat → Prop} (hx : p.tables.exec = Jvm.exec) (hb : c.code = cX3_tryBit) (hr : meth.sig.returnType = (some .int)) (hml : c.maxLocals = 6) (hown : s.vm.findClass RX3 = some m.cls) (hts : ∀ w ∈ G, w.before args s = true) (hlocks : meth.locks = false) (hA : ∀ q : Nat, s.heap.size ≤ q → A q) (hZ : zOk s) (hK : va_K (dC, dI) vwCl [(cZ, .boolean), (cK, .int)] s) : ∀ (th : Int32) (bm : Bm) (km : Rw) (qm : Tk) (bd : Int32) (ym : Tk) (bt : Int32) (la : Int32), (yOk km ym) → LX3_tryBit_155 st lo th bm km qm bd ym bt la = z → ∀ (H : Heap) (locs : List Loc), va_P (dC, dI) vwCl [(om, .inr (3, [.int th, .int st, .int lo, .ref ob, .int bm.2.1, .int bm.2.2.1, .int bm.2.2.2.1, .int bm.2.2.2.2, .ref ok, .int km.2, .int qm.1, .int qm.2.1, .int qm.2.2.1, .int qm.2.2.2, .int bd, .int ym.1, .int ym.2.1, .int ym.2.2.1, .int ym.2.2.2])), (ob, .inl (cZ, 5200, .inl bm.1)), (ok, .inl (cK, 600, .inl km.1))] H → va_D A [(om, .inr (3, [.int th, .int st, .int lo, .ref ob, .int bm.2.1, .int bm.2.2.1, .int bm.2.2.2.1, .int bm.2.2.2.2, .ref ok, .int km.2, .int qm.1, .int qm.2.1, .int qm.2.2.1, .int qm.2.2.2, .int bd, .int ym.1, .int ym.2.1, .int ym.2.2.1, .int ym.2.2.2])), (ob, .inl (cZ, 5200, .inl bm.1)), (ok, .inl (cK, 600, .inl km.1))] → va_S A s.heap H locs → ∀ (ls : Array Slot), lv_has ls 6 [(0, .ref om), (3, .int bt), (4, .int la)] → W p l e (headSpec (Cond.code yX3_tryBit cX3_tryBit 6 (some .int) :: G) ({ frames := 1, cells := 0, slots := 0, locals := 22 } : Room)).room s m args below meth c H locs 0 0 (MQ below (va_Qi (fun (r : Int32) (u : Tk) => (r, u) = z) (fun (u : Tk) (t : State) => va_P (dC, dI) vwCl [(om, .inr (3, [.int th, .int st, .int lo, .ref ob, .int bm.2.1, .int bm.2.2.1, .int bm.2.2.2.1, .int bm.2.2.2.2, .ref ok, .int km.2, .int qm.1, .int qm.2.1, .int qm.2.2.1, .int qm.2.2.2, .int bd, .int u.1, .int u.2.1, .int u.2.2.1, .int u.2.2.2])), (ob, .inl (cZ, 5200, .inl bm.1)), (ok, .inl (cK, 600, .inl km.1))] t.heap ∧ va_D A [(om, .inr (3, [.int th, .int st, .int lo, .ref ob, .int bm.2.1, .int bm.2.2.1, .int bm.2.2.2.1, .int bm.2.2.2.2, .ref ok, .int km.2, .int qm.1, .int qm.2.1, .int qm.2.2.1, .int qm.2.2.2, .int bd, .int u.1, .int u.2.1, .int u.2.2.1, .int u.2.2.2])), (ob, .inl (cZ, 5200, .inl bm.1)), (ok, .inl (cK, 600, .inl km.1))]) A) args s 0 0 A) (F0 m 155 ls []) := by
  intro th bm km qm bd ym bt la hY hz H locs hP hD hS ls hl
  refine lv_aload_n hx hb dX3_tryBit_155 rfl (lv_at hl 0 rfl) ?_
  refine va_get (D := (dC, dI)) (ci := 3) (v := .int st) (C := RX3) (T := TX3) (N := 19) hx hb hts inGX3 hown hK hP 0 rfl rfl 1 (by decide) (hts _ wd438) (fun _ h9 => h9) rfl dX3_tryBit_156 ?_
  refine lv_iconst (v := 1) hx hb dX3_tryBit_159 (by decide) ?_
  refine lv_icmp_le (tgt := 178) hx hb dX3_tryBit_160 (by decide) (fun c_160 => ?_) (fun c_160 => ?_)
  · refine lv_iconst (v := 0) hx hb dX3_tryBit_178 (by decide) ?_
    refine lv_istore (lv' := [(5, .int 0), (0, .ref om), (3, .int bt), (4, .int la)]) hx hb dX3_tryBit_179 hl (by decide) rfl (fun ls hl => ?_)
    refine lv_iload hx hb dX3_tryBit_181 (lv_at hl 3 rfl) ?_
    refine lv_if_ne (tgt := 191) hx hb dX3_tryBit_183 (by decide) (fun c_183 => ?_) (fun c_183 => ?_)
    · exact kX3_tryBit_191 hx hb hr hml hown hts hlocks hA hZ hK  th bm km qm bd ym bt hY ((plX3_tryBit_l155_0 st lo th bm km qm bd ym bt la c_160 c_183).trans hz) _ _ (hP.sub (ws' := [(om, .inr (3, [.int th, .int st, .int lo, .ref ob, .int bm.2.1, .int bm.2.2.1, .int bm.2.2.2.1, .int bm.2.2.2.2, .ref ok, .int km.2, .int qm.1, .int qm.2.1, .int qm.2.2.1, .int qm.2.2.2, .int bd, .int ym.1, .int ym.2.1, .int ym.2.2.1, .int ym.2.2.2])), (ob, .inl (cZ, 5200, .inl bm.1)), (ok, .inl (cK, 600, .inl km.1))]) [0, 1, 2] rfl) (hD.sub (ws' := [(om, .inr (3, [.int th, .int st, .int lo, .ref ob, .int bm.2.1, .int bm.2.2.1, .int bm.2.2.2.1, .int bm.2.2.2.2, .ref ok, .int km.2, .int qm.1, .int qm.2.1, .int qm.2.2.1, .int qm.2.2.2, .int bd, .int ym.1, .int ym.2.1, .int ym.2.2.1, .int ym.2.2.2])), (ob, .inl (cZ, 5200, .inl bm.1)), (ok, .inl (cK, 600, .inl km.1))]) [0, 1, 2] (by decide) rfl) hS ls (lv_sub hl [1, 2] rfl)
    · refine lv_iload hx hb dX3_tryBit_186 (lv_at hl 0 rfl) ?_
      refine lv_if_eq (tgt := 241) hx hb dX3_tryBit_188 (by decide) (fun c_188 => ?_) (fun c_188 => absurd c_188 (by decide))
      refine lv_iload_n hx hb dX3_tryBit_241 rfl (lv_at hl 2 rfl) ?_
      have hP9 := hP.sub (ws' := [(om, .inr (3, [.int th, .int st, .int lo, .ref ob, .int bm.2.1, .int bm.2.2.1, .int bm.2.2.2.1, .int bm.2.2.2.2, .ref ok, .int km.2, .int qm.1, .int qm.2.1, .int qm.2.2.1, .int qm.2.2.2, .int bd, .int ym.1, .int ym.2.1, .int ym.2.2.1, .int ym.2.2.2])), (ob, .inl (cZ, 5200, .inl bm.1)), (ok, .inl (cK, 600, .inl km.1))]) [0, 1, 2] rfl
      have hD9 := hD.sub (ws' := [(om, .inr (3, [.int th, .int st, .int lo, .ref ob, .int bm.2.1, .int bm.2.2.1, .int bm.2.2.2.1, .int bm.2.2.2.2, .ref ok, .int km.2, .int qm.1, .int qm.2.1, .int qm.2.2.1, .int qm.2.2.2, .int bd, .int ym.1, .int ym.2.1, .int ym.2.2.1, .int ym.2.2.2])), (ob, .inl (cZ, 5200, .inl bm.1)), (ok, .inl (cK, 600, .inl km.1))]) [0, 1, 2] (by decide) rfl
      exact W.iret (v := bt) hx hb hr (fun t ht hW => ⟨⟨bt, ym, rfl, ((plX3_tryBit_l155_1 st lo th bm km qm bd ym bt la c_160 c_183).trans hz), by rw [ht]; exact hP9, hD9⟩, hS.F ht⟩) hS.2.2 dX3_tryBit_242
  · refine lv_aload_n hx hb dX3_tryBit_163 rfl (lv_at hl 0 rfl) ?_
    refine va_get (D := (dC, dI)) (ci := 3) (v := .int ym.2.2.1) (C := RX3) (T := TX3) (N := 19) hx hb hts inGX3 hown hK hP 0 rfl rfl 17 (by decide) (hts _ wd454) (fun _ h9 => h9) rfl dX3_tryBit_164 ?_
    refine lv_aload_n hx hb dX3_tryBit_167 rfl (lv_at hl 0 rfl) ?_
    refine va_get (D := (dC, dI)) (ci := 3) (v := .int st) (C := RX3) (T := TX3) (N := 19) hx hb hts inGX3 hown hK hP 0 rfl rfl 1 (by decide) (hts _ wd438) (fun _ h9 => h9) rfl dX3_tryBit_168 ?_
    refine lv_icmp_ne (tgt := 178) hx hb dX3_tryBit_171 (by decide) (fun c_171 => ?_) (fun c_171 => ?_)
    · refine lv_iconst (v := 0) hx hb dX3_tryBit_178 (by decide) ?_
      refine lv_istore (lv' := [(5, .int 0), (0, .ref om), (3, .int bt), (4, .int la)]) hx hb dX3_tryBit_179 hl (by decide) rfl (fun ls hl => ?_)
      refine lv_iload hx hb dX3_tryBit_181 (lv_at hl 3 rfl) ?_
      refine lv_if_ne (tgt := 191) hx hb dX3_tryBit_183 (by decide) (fun c_183 => ?_) (fun c_183 => ?_)
      · exact kX3_tryBit_191 hx hb hr hml hown hts hlocks hA hZ hK  th bm km qm bd ym bt hY ((plX3_tryBit_l155_2 st lo th bm km qm bd ym bt la c_160 c_171 c_183).trans hz) _ _ (hP.sub (ws' := [(om, .inr (3, [.int th, .int st, .int lo, .ref ob, .int bm.2.1, .int bm.2.2.1, .int bm.2.2.2.1, .int bm.2.2.2.2, .ref ok, .int km.2, .int qm.1, .int qm.2.1, .int qm.2.2.1, .int qm.2.2.2, .int bd, .int ym.1, .int ym.2.1, .int ym.2.2.1, .int ym.2.2.2])), (ob, .inl (cZ, 5200, .inl bm.1)), (ok, .inl (cK, 600, .inl km.1))]) [0, 1, 2] rfl) (hD.sub (ws' := [(om, .inr (3, [.int th, .int st, .int lo, .ref ob, .int bm.2.1, .int bm.2.2.1, .int bm.2.2.2.1, .int bm.2.2.2.2, .ref ok, .int km.2, .int qm.1, .int qm.2.1, .int qm.2.2.1, .int qm.2.2.2, .int bd, .int ym.1, .int ym.2.1, .int ym.2.2.1, .int ym.2.2.2])), (ob, .inl (cZ, 5200, .inl bm.1)), (ok, .inl (cK, 600, .inl km.1))]) [0, 1, 2] (by decide) rfl) hS ls (lv_sub hl [1, 2] rfl)
      · refine lv_iload hx hb dX3_tryBit_186 (lv_at hl 0 rfl) ?_
        refine lv_if_eq (tgt := 241) hx hb dX3_tryBit_188 (by decide) (fun c_188 => ?_) (fun c_188 => absurd c_188 (by decide))
        refine lv_iload_n hx hb dX3_tryBit_241 rfl (lv_at hl 2 rfl) ?_
        have hP9 := hP.sub (ws' := [(om, .inr (3, [.int th, .int st, .int lo, .ref ob, .int bm.2.1, .int bm.2.2.1, .int bm.2.2.2.1, .int bm.2.2.2.2, .ref ok, .int km.2, .int qm.1, .int qm.2.1, .int qm.2.2.1, .int qm.2.2.2, .int bd, .int ym.1, .int ym.2.1, .int ym.2.2.1, .int ym.2.2.2])), (ob, .inl (cZ, 5200, .inl bm.1)), (ok, .inl (cK, 600, .inl km.1))]) [0, 1, 2] rfl
        have hD9 := hD.sub (ws' := [(om, .inr (3, [.int th, .int st, .int lo, .ref ob, .int bm.2.1, .int bm.2.2.1, .int bm.2.2.2.1, .int bm.2.2.2.2, .ref ok, .int km.2, .int qm.1, .int qm.2.1, .int qm.2.2.1, .int qm.2.2.2, .int bd, .int ym.1, .int ym.2.1, .int ym.2.2.1, .int ym.2.2.2])), (ob, .inl (cZ, 5200, .inl bm.1)), (ok, .inl (cK, 600, .inl km.1))]) [0, 1, 2] (by decide) rfl
        exact W.iret (v := bt) hx hb hr (fun t ht hW => ⟨⟨bt, ym, rfl, ((plX3_tryBit_l155_3 st lo th bm km qm bd ym bt la c_160 c_171 c_183).trans hz), by rw [ht]; exact hP9, hD9⟩, hS.F ht⟩) hS.2.2 dX3_tryBit_242
    · refine lv_iconst (v := 1) hx hb dX3_tryBit_174 (by decide) ?_
      refine lv_goto (tgt := 179) hx hb dX3_tryBit_175 (by decide) ?_
      refine lv_istore (lv' := [(5, .int 1), (0, .ref om), (3, .int bt), (4, .int la)]) hx hb dX3_tryBit_179 hl (by decide) rfl (fun ls hl => ?_)
      refine lv_iload hx hb dX3_tryBit_181 (lv_at hl 3 rfl) ?_
      refine lv_if_ne (tgt := 191) hx hb dX3_tryBit_183 (by decide) (fun c_183 => ?_) (fun c_183 => ?_)
      · exact kX3_tryBit_191 hx hb hr hml hown hts hlocks hA hZ hK  th bm km qm bd ym bt hY ((plX3_tryBit_l155_4 st lo th bm km qm bd ym bt la c_160 c_171 c_183).trans hz) _ _ (hP.sub (ws' := [(om, .inr (3, [.int th, .int st, .int lo, .ref ob, .int bm.2.1, .int bm.2.2.1, .int bm.2.2.2.1, .int bm.2.2.2.2, .ref ok, .int km.2, .int qm.1, .int qm.2.1, .int qm.2.2.1, .int qm.2.2.2, .int bd, .int ym.1, .int ym.2.1, .int ym.2.2.1, .int ym.2.2.2])), (ob, .inl (cZ, 5200, .inl bm.1)), (ok, .inl (cK, 600, .inl km.1))]) [0, 1, 2] rfl) (hD.sub (ws' := [(om, .inr (3, [.int th, .int st, .int lo, .ref ob, .int bm.2.1, .int bm.2.2.1, .int bm.2.2.2.1, .int bm.2.2.2.2, .ref ok, .int km.2, .int qm.1, .int qm.2.1, .int qm.2.2.1, .int qm.2.2.2, .int bd, .int ym.1, .int ym.2.1, .int ym.2.2.1, .int ym.2.2.2])), (ob, .inl (cZ, 5200, .inl bm.1)), (ok, .inl (cK, 600, .inl km.1))]) [0, 1, 2] (by decide) rfl) hS ls (lv_sub hl [1, 2] rfl)
      · refine lv_iload hx hb dX3_tryBit_186 (lv_at hl 0 rfl) ?_
        refine lv_if_eq (tgt := 241) hx hb dX3_tryBit_188 (by decide) (fun c_188 => absurd c_188 (by decide)) (fun c_188 => ?_)
        exact kX3_tryBit_191 hx hb hr hml hown hts hlocks hA hZ hK  th bm km qm bd ym bt hY ((plX3_tryBit_l155_5 st lo th bm km qm bd ym bt la c_160 c_171 c_183).trans hz) _ _ (hP.sub (ws' := [(om, .inr (3, [.int th, .int st, .int lo, .ref ob, .int bm.2.1, .int bm.2.2.1, .int bm.2.2.2.1, .int bm.2.2.2.2, .ref ok, .int km.2, .int qm.1, .int qm.2.1, .int qm.2.2.1, .int qm.2.2.2, .int bd, .int ym.1, .int ym.2.1, .int ym.2.2.1, .int ym.2.2.2])), (ob, .inl (cZ, 5200, .inl bm.1)), (ok, .inl (cK, 600, .inl km.1))]) [0, 1, 2] rfl) (hD.sub (ws' := [(om, .inr (3, [.int th, .int st, .int lo, .ref ob, .int bm.2.1, .int bm.2.2.1, .int bm.2.2.2.1, .int bm.2.2.2.2, .ref ok, .int km.2, .int qm.1, .int qm.2.1, .int qm.2.2.1, .int qm.2.2.2, .int bd, .int ym.1, .int ym.2.1, .int ym.2.2.1, .int ym.2.2.2])), (ob, .inl (cZ, 5200, .inl bm.1)), (ok, .inl (cK, 600, .inl km.1))]) [0, 1, 2] (by decide) rfl) hS ls (lv_sub hl [1, 2] rfl)
set_option maxHeartbeats 4000000 in
set_option maxRecDepth 100000 in
theorem kX3_tryBit_132 {p : Program} {l : Launch} {e : Env} {s : State} {m : MethodId} {args : Array Value} {below : List Frame} {meth : Method} {c : Code} {dC : Nat → ClassId} {dI : Nat → Nat → Nat} {cZ cK : ClassId} {om ob ok : Nat} {st : Int32} {lo : Int32} {z : Int32 × Tk} {A : Nat → Prop} (hx : p.tables.exec = Jvm.exec) (hb : c.code = cX3_tryBit) (hr : meth.sig.returnType = (some .int)) (hml : c.maxLocals = 6) (hown : s.vm.findClass RX3 = some m.cls) (hts : ∀ w ∈ G, w.before args s = true) (hlocks : meth.locks = false) (hA : ∀ q : Nat, s.heap.size ≤ q → A q) (hZ : zOk s) (hK : va_K (dC, dI) vwCl [(cZ, .boolean), (cK, .int)] s) : ∀ (th : Int32) (bm : Bm) (km : Rw) (qm : Tk) (bd : Int32) (ym : Tk) (bt : Int32) (la : Int32), (yOk km ym) → (tOk ym.1) → LX3_tryBit_132 st lo th bm km qm bd ym bt la = z → ∀ (H : Heap) (locs : List Loc), va_P (dC, dI) vwCl [(om, .inr (3, [.int th, .int st, .int lo, .ref ob, .int bm.2.1, .int bm.2.2.1, .int bm.2.2.2.1, .int bm.2.2.2.2, .ref ok, .int km.2, .int qm.1, .int qm.2.1, .int qm.2.2.1, .int qm.2.2.2, .int bd, .int ym.1, .int ym.2.1, .int ym.2.2.1, .int ym.2.2.2])), (ob, .inl (cZ, 5200, .inl bm.1)), (ok, .inl (cK, 600, .inl km.1))] H → va_D A [(om, .inr (3, [.int th, .int st, .int lo, .ref ob, .int bm.2.1, .int bm.2.2.1, .int bm.2.2.2.1, .int bm.2.2.2.2, .ref ok, .int km.2, .int qm.1, .int qm.2.1, .int qm.2.2.1, .int qm.2.2.2, .int bd, .int ym.1, .int ym.2.1, .int ym.2.2.1, .int ym.2.2.2])), (ob, .inl (cZ, 5200, .inl bm.1)), (ok, .inl (cK, 600, .inl km.1))] → va_S A s.heap H locs → ∀ (ls : Array Slot), lv_has ls 6 [(0, .ref om), (3, .int bt), (4, .int la)] → W p l e (headSpec (Cond.code yX3_tryBit cX3_tryBit 6 (some .int) :: G) ({ frames := 1, cells := 0, slots := 0, locals := 22 } : Room)).room s m args below meth c H locs 0 0 (MQ below (va_Qi (fun (r : Int32) (u : Tk) => (r, u) = z) (fun (u : Tk) (t : State) => va_P (dC, dI) vwCl [(om, .inr (3, [.int th, .int st, .int lo, .ref ob, .int bm.2.1, .int bm.2.2.1, .int bm.2.2.2.1, .int bm.2.2.2.2, .ref ok, .int km.2, .int qm.1, .int qm.2.1, .int qm.2.2.1, .int qm.2.2.2, .int bd, .int u.1, .int u.2.1, .int u.2.2.1, .int u.2.2.2])), (ob, .inl (cZ, 5200, .inl bm.1)), (ok, .inl (cK, 600, .inl km.1))] t.heap ∧ va_D A [(om, .inr (3, [.int th, .int st, .int lo, .ref ob, .int bm.2.1, .int bm.2.2.1, .int bm.2.2.2.1, .int bm.2.2.2.2, .ref ok, .int km.2, .int qm.1, .int qm.2.1, .int qm.2.2.1, .int qm.2.2.2, .int bd, .int u.1, .int u.2.1, .int u.2.2.1, .int u.2.2.2])), (ob, .inl (cZ, 5200, .inl bm.1)), (ok, .inl (cK, 600, .inl km.1))]) A) args s 0 0 A) (F0 m 132 ls []) := by
  intro th bm km qm bd ym bt la hY hT hz H locs hP hD hS ls hl
  refine lv_aload_n hx hb dX3_tryBit_132 rfl (lv_at hl 0 rfl) ?_
  have hPc := hP.sub (ws' := [(om, .inr (3, [.int th, .int st, .int lo, .ref ob, .int bm.2.1, .int bm.2.2.1, .int bm.2.2.2.1, .int bm.2.2.2.2, .ref ok, .int km.2, .int qm.1, .int qm.2.1, .int qm.2.2.1, .int qm.2.2.2, .int bd, .int ym.1, .int ym.2.1, .int ym.2.2.1, .int ym.2.2.2])), (ob, .inl (cZ, 5200, .inl bm.1)), (ok, .inl (cK, 600, .inl km.1))]) [0, 1, 2] rfl
  have hKc := hK.sub (tys' := [(cZ, .boolean), (cK, .int)]) [0, 1] rfl
  have hDc := hD.sub (ws' := [(om, .inr (3, [.int th, .int st, .int lo, .ref ob, .int bm.2.1, .int bm.2.2.1, .int bm.2.2.2.1, .int bm.2.2.2.2, .ref ok, .int km.2, .int qm.1, .int qm.2.1, .int qm.2.2.1, .int qm.2.2.2, .int bd, .int ym.1, .int ym.2.1, .int ym.2.2.1, .int ym.2.2.2])), (ob, .inl (cZ, 5200, .inl bm.1)), (ok, .inl (cK, 600, .inl km.1))]) [0, 1, 2] (by decide) rfl
  have hFc := va_free (wc := [(om, .inr (3, [.int th, .int st, .int lo, .ref ob, .int bm.2.1, .int bm.2.2.1, .int bm.2.2.2.1, .int bm.2.2.2.2, .ref ok, .int km.2, .int qm.1, .int qm.2.1, .int qm.2.2.1, .int qm.2.2.2, .int bd, .int ym.1, .int ym.2.1, .int ym.2.2.1, .int ym.2.2.2])), (ob, .inl (cZ, 5200, .inl bm.1)), (ok, .inl (cK, 600, .inl km.1))]) hD hS hA [0, 1, 2] rfl
  refine va_callv (va_runV (As := []) (rest := []) ⟨hx, hb, hml, hown, hts⟩ (mX3_goOn l dC dI cZ cK om ob ok H.size st lo th bm km qm bd ym hT) (cwV 0 hts (gV wd572 wd573 wd22 wd30 wd574) rfl rfl rfl (by decide +kernel) ⟨Nat.le_of_ble_eq_true rfl, Nat.le_of_ble_eq_true rfl⟩) ⟨fb_rw, va_recv hKc hPc (ci := 3) (q0 := 0) rfl rfl, pre_rw hPc hKc hDc hZ⟩ rfl rfl hl.1 rfl (lv_room (Nat.le_of_ble_eq_true rfl)) dX3_tryBit_133 ⟨Nat.le_of_ble_eq_true rfl, Nat.le_of_ble_eq_true rfl⟩) hS (fun q _ h => hFc q h) hFc (fun u_2 t H1 locs ht hvm hw_1 hB hz1 hk1 hS => ?_)
  obtain ⟨hP1, hD1⟩ := hB
  rw [ht] at hP1
  obtain ⟨hP, hD⟩ := va_join (wr := []) (w1 := [(om, .inr (3, [.int th, .int st, .int lo, .ref ob, .int bm.2.1, .int bm.2.2.1, .int bm.2.2.2.1, .int bm.2.2.2.2, .ref ok, .int km.2, .int qm.1, .int qm.2.1, .int qm.2.2.1, .int qm.2.2.2, .int bd, .int u_2.1, .int u_2.2.1, .int u_2.2.2.1, .int u_2.2.2.2])), (ob, .inl (cZ, 5200, .inl bm.1)), (ok, .inl (cK, 600, .inl km.1))]) hP hD [0, 1, 2] [] rfl rfl (by decide) (by decide) hk1 hFc hP1 hD1
  generalize H1 = H at hP hS ⊢
  have hP : va_P (dC, dI) vwCl [(om, .inr (3, [.int th, .int st, .int lo, .ref ob, .int bm.2.1, .int bm.2.2.1, .int bm.2.2.2.1, .int bm.2.2.2.2, .ref ok, .int km.2, .int qm.1, .int qm.2.1, .int qm.2.2.1, .int qm.2.2.2, .int bd, .int u_2.1, .int u_2.2.1, .int u_2.2.2.1, .int u_2.2.2.2])), (ob, .inl (cZ, 5200, .inl bm.1)), (ok, .inl (cK, 600, .inl km.1))] H := hP
  have hD : va_D A [(om, .inr (3, [.int th, .int st, .int lo, .ref ob, .int bm.2.1, .int bm.2.2.1, .int bm.2.2.2.1, .int bm.2.2.2.2, .ref ok, .int km.2, .int qm.1, .int qm.2.1, .int qm.2.2.1, .int qm.2.2.2, .int bd, .int u_2.1, .int u_2.2.1, .int u_2.2.2.1, .int u_2.2.2.2])), (ob, .inl (cZ, 5200, .inl bm.1)), (ok, .inl (cK, 600, .inl km.1))] := hD
  refine lv_aload_n hx hb dX3_tryBit_136 rfl (lv_at hl 0 rfl) ?_
  refine lv_iload_n hx hb dX3_tryBit_137 rfl (lv_at hl 1 rfl) ?_
  refine lv_iconst (v := 1) hx hb dX3_tryBit_138 (by decide) ?_
  refine lv_icmp_ne (tgt := 151) hx hb dX3_tryBit_139 (by decide) (fun c_139 => ?_) (fun c_139 => ?_)
  · refine lv_iconst (v := 0) hx hb dX3_tryBit_151 (by decide) ?_
    refine va_put (D := (dC, dI)) (ci := 3) (v := .int 0) (ty := .int) (C := RX3) (T := TX3) (N := 19) hx hb hts inGX3 tyX3 tyX3_ok nmX3 hown hK hP hD hS 0 rfl rfl 17 (by decide) (hts _ wd454) (fun _ h9 => h9) rfl (by decide +kernel) rfl rfl (Nat.le_of_ble_eq_true rfl) dX3_tryBit_152 (fun H locs hP hD hS => ?_)
    have hP : va_P (dC, dI) vwCl [(om, .inr (3, [.int th, .int st, .int lo, .ref ob, .int bm.2.1, .int bm.2.2.1, .int bm.2.2.2.1, .int bm.2.2.2.2, .ref ok, .int km.2, .int qm.1, .int qm.2.1, .int qm.2.2.1, .int qm.2.2.2, .int bd, .int u_2.1, .int u_2.2.1, .int 0, .int u_2.2.2.2])), (ob, .inl (cZ, 5200, .inl bm.1)), (ok, .inl (cK, 600, .inl km.1))] H := hP
    have hD : va_D A [(om, .inr (3, [.int th, .int st, .int lo, .ref ob, .int bm.2.1, .int bm.2.2.1, .int bm.2.2.2.1, .int bm.2.2.2.2, .ref ok, .int km.2, .int qm.1, .int qm.2.1, .int qm.2.2.1, .int qm.2.2.2, .int bd, .int u_2.1, .int u_2.2.1, .int 0, .int u_2.2.2.2])), (ob, .inl (cZ, 5200, .inl bm.1)), (ok, .inl (cK, 600, .inl km.1))] := hD
    exact kX3_tryBit_155 hx hb hr hml hown hts hlocks hA hZ hK  th bm km qm bd (u_2.1, u_2.2.1, 0, u_2.2.2.2) bt la (go_yT hY hT (by assumption)) ((plX3_tryBit_l132_0 st lo th bm km qm bd ym bt la _ hw_1 c_139).trans hz) _ _ (hP.sub (ws' := [(om, .inr (3, [.int th, .int st, .int lo, .ref ob, .int bm.2.1, .int bm.2.2.1, .int bm.2.2.2.1, .int bm.2.2.2.2, .ref ok, .int km.2, .int qm.1, .int qm.2.1, .int qm.2.2.1, .int qm.2.2.2, .int bd, .int ((u_2.1, u_2.2.1, 0, u_2.2.2.2).1), .int ((u_2.1, u_2.2.1, 0, u_2.2.2.2).2.1), .int ((u_2.1, u_2.2.1, 0, u_2.2.2.2).2.2.1), .int ((u_2.1, u_2.2.1, 0, u_2.2.2.2).2.2.2)])), (ob, .inl (cZ, 5200, .inl bm.1)), (ok, .inl (cK, 600, .inl km.1))]) [0, 1, 2] rfl) (hD.sub (ws' := [(om, .inr (3, [.int th, .int st, .int lo, .ref ob, .int bm.2.1, .int bm.2.2.1, .int bm.2.2.2.1, .int bm.2.2.2.2, .ref ok, .int km.2, .int qm.1, .int qm.2.1, .int qm.2.2.1, .int qm.2.2.2, .int bd, .int ((u_2.1, u_2.2.1, 0, u_2.2.2.2).1), .int ((u_2.1, u_2.2.1, 0, u_2.2.2.2).2.1), .int ((u_2.1, u_2.2.1, 0, u_2.2.2.2).2.2.1), .int ((u_2.1, u_2.2.1, 0, u_2.2.2.2).2.2.2)])), (ob, .inl (cZ, 5200, .inl bm.1)), (ok, .inl (cK, 600, .inl km.1))]) [0, 1, 2] (by decide) rfl) hS ls (lv_sub hl [0, 1, 2] rfl)
  · refine lv_aload_n hx hb dX3_tryBit_142 rfl (lv_at hl 0 rfl) ?_
    refine va_get (D := (dC, dI)) (ci := 3) (v := .int u_2.2.2.1) (C := RX3) (T := TX3) (N := 19) hx hb hts inGX3 hown hK hP 0 rfl rfl 17 (by decide) (hts _ wd454) (fun _ h9 => h9) rfl dX3_tryBit_143 ?_
    refine lv_iconst (v := 1) hx hb dX3_tryBit_146 (by decide) ?_
    refine lv_iadd hx hb dX3_tryBit_147 ?_
    refine lv_goto (tgt := 152) hx hb dX3_tryBit_148 (by decide) ?_
    refine lv_topi (fun f_3 ef_3 => ?_)
    refine va_put (D := (dC, dI)) (ci := 3) (v := .int f_3) (ty := .int) (C := RX3) (T := TX3) (N := 19) hx hb hts inGX3 tyX3 tyX3_ok nmX3 hown hK hP hD hS 0 rfl rfl 17 (by decide) (hts _ wd454) (fun _ h9 => h9) rfl (by decide +kernel) rfl rfl (Nat.le_of_ble_eq_true rfl) dX3_tryBit_152 (fun H locs hP hD hS => ?_)
    have hP : va_P (dC, dI) vwCl [(om, .inr (3, [.int th, .int st, .int lo, .ref ob, .int bm.2.1, .int bm.2.2.1, .int bm.2.2.2.1, .int bm.2.2.2.2, .ref ok, .int km.2, .int qm.1, .int qm.2.1, .int qm.2.2.1, .int qm.2.2.2, .int bd, .int u_2.1, .int u_2.2.1, .int f_3, .int u_2.2.2.2])), (ob, .inl (cZ, 5200, .inl bm.1)), (ok, .inl (cK, 600, .inl km.1))] H := hP
    have hD : va_D A [(om, .inr (3, [.int th, .int st, .int lo, .ref ob, .int bm.2.1, .int bm.2.2.1, .int bm.2.2.2.1, .int bm.2.2.2.2, .ref ok, .int km.2, .int qm.1, .int qm.2.1, .int qm.2.2.1, .int qm.2.2.2, .int bd, .int u_2.1, .int u_2.2.1, .int f_3, .int u_2.2.2.2])), (ob, .inl (cZ, 5200, .inl bm.1)), (ok, .inl (cK, 600, .inl km.1))] := hD
    exact kX3_tryBit_155 hx hb hr hml hown hts hlocks hA hZ hK  th bm km qm bd (u_2.1, u_2.2.1, f_3, u_2.2.2.2) bt la (go_yT hY hT (by assumption)) ((plX3_tryBit_l132_1 st lo th bm km qm bd ym bt la _ hw_1 c_139 _ ef_3).trans hz) _ _ (hP.sub (ws' := [(om, .inr (3, [.int th, .int st, .int lo, .ref ob, .int bm.2.1, .int bm.2.2.1, .int bm.2.2.2.1, .int bm.2.2.2.2, .ref ok, .int km.2, .int qm.1, .int qm.2.1, .int qm.2.2.1, .int qm.2.2.2, .int bd, .int ((u_2.1, u_2.2.1, f_3, u_2.2.2.2).1), .int ((u_2.1, u_2.2.1, f_3, u_2.2.2.2).2.1), .int ((u_2.1, u_2.2.1, f_3, u_2.2.2.2).2.2.1), .int ((u_2.1, u_2.2.1, f_3, u_2.2.2.2).2.2.2)])), (ob, .inl (cZ, 5200, .inl bm.1)), (ok, .inl (cK, 600, .inl km.1))]) [0, 1, 2] rfl) (hD.sub (ws' := [(om, .inr (3, [.int th, .int st, .int lo, .ref ob, .int bm.2.1, .int bm.2.2.1, .int bm.2.2.2.1, .int bm.2.2.2.2, .ref ok, .int km.2, .int qm.1, .int qm.2.1, .int qm.2.2.1, .int qm.2.2.2, .int bd, .int ((u_2.1, u_2.2.1, f_3, u_2.2.2.2).1), .int ((u_2.1, u_2.2.1, f_3, u_2.2.2.2).2.1), .int ((u_2.1, u_2.2.1, f_3, u_2.2.2.2).2.2.1), .int ((u_2.1, u_2.2.1, f_3, u_2.2.2.2).2.2.2)])), (ob, .inl (cZ, 5200, .inl bm.1)), (ok, .inl (cK, 600, .inl km.1))]) [0, 1, 2] (by decide) rfl) hS ls (lv_sub hl [0, 1, 2] rfl)
set_option maxHeartbeats 4000000 in
set_option maxRecDepth 100000 in
theorem kX3_tryBit_82 {p : Program} {l : Launch} {e : Env} {s : State} {m : MethodId} {args : Array Value} {below : List Frame} {meth : Method} {c : Code} {dC : Nat → ClassId} {dI : Nat → Nat → Nat} {cZ cK : ClassId} {om ob ok : Nat} {st : Int32} {lo : Int32} {z : Int32 × Tk} {A : Nat → Prop} (hx : p.tables.exec = Jvm.exec) (hb : c.code = cX3_tryBit) (hr : meth.sig.returnType = (some .int)) (hml : c.maxLocals = 6) (hown : s.vm.findClass RX3 = some m.cls) (hts : ∀ w ∈ G, w.before args s = true) (hlocks : meth.locks = false) (hA : ∀ q : Nat, s.heap.size ≤ q → A q) (hZ : zOk s) (hK : va_K (dC, dI) vwCl [(cZ, .boolean), (cK, .int)] s) : ∀ (th : Int32) (bm : Bm) (km : Rw) (qm : Tk) (bd : Int32) (ym : Tk), (yOk km ym) → (tOk ym.1) → LX3_tryBit_82 st lo th bm km qm bd ym = z → ∀ (H : Heap) (locs : List Loc), va_P (dC, dI) vwCl [(om, .inr (3, [.int th, .int st, .int lo, .ref ob, .int bm.2.1, .int bm.2.2.1, .int bm.2.2.2.1, .int bm.2.2.2.2, .ref ok, .int km.2, .int qm.1, .int qm.2.1, .int qm.2.2.1, .int qm.2.2.2, .int bd, .int ym.1, .int ym.2.1, .int ym.2.2.1, .int ym.2.2.2])), (ob, .inl (cZ, 5200, .inl bm.1)), (ok, .inl (cK, 600, .inl km.1))] H → va_D A [(om, .inr (3, [.int th, .int st, .int lo, .ref ob, .int bm.2.1, .int bm.2.2.1, .int bm.2.2.2.1, .int bm.2.2.2.2, .ref ok, .int km.2, .int qm.1, .int qm.2.1, .int qm.2.2.1, .int qm.2.2.2, .int bd, .int ym.1, .int ym.2.1, .int ym.2.2.1, .int ym.2.2.2])), (ob, .inl (cZ, 5200, .inl bm.1)), (ok, .inl (cK, 600, .inl km.1))] → va_S A s.heap H locs → ∀ (ls : Array Slot), lv_has ls 6 [(0, .ref om)] → W p l e (headSpec (Cond.code yX3_tryBit cX3_tryBit 6 (some .int) :: G) ({ frames := 1, cells := 0, slots := 0, locals := 22 } : Room)).room s m args below meth c H locs 0 0 (MQ below (va_Qi (fun (r : Int32) (u : Tk) => (r, u) = z) (fun (u : Tk) (t : State) => va_P (dC, dI) vwCl [(om, .inr (3, [.int th, .int st, .int lo, .ref ob, .int bm.2.1, .int bm.2.2.1, .int bm.2.2.2.1, .int bm.2.2.2.2, .ref ok, .int km.2, .int qm.1, .int qm.2.1, .int qm.2.2.1, .int qm.2.2.2, .int bd, .int u.1, .int u.2.1, .int u.2.2.1, .int u.2.2.2])), (ob, .inl (cZ, 5200, .inl bm.1)), (ok, .inl (cK, 600, .inl km.1))] t.heap ∧ va_D A [(om, .inr (3, [.int th, .int st, .int lo, .ref ob, .int bm.2.1, .int bm.2.2.1, .int bm.2.2.2.1, .int bm.2.2.2.2, .ref ok, .int km.2, .int qm.1, .int qm.2.1, .int qm.2.2.1, .int qm.2.2.2, .int bd, .int u.1, .int u.2.1, .int u.2.2.1, .int u.2.2.2])), (ob, .inl (cZ, 5200, .inl bm.1)), (ok, .inl (cK, 600, .inl km.1))]) A) args s 0 0 A) (F0 m 82 ls []) := by
  intro th bm km qm bd ym hY hT hz H locs hP hD hS ls hl
  refine lv_aload_n hx hb dX3_tryBit_82 rfl (lv_at hl 0 rfl) ?_
  refine lv_aload_n hx hb dX3_tryBit_83 rfl (lv_at hl 0 rfl) ?_
  refine va_get (D := (dC, dI)) (ci := 3) (v := .int ym.1) (C := RX3) (T := TX3) (N := 19) hx hb hts inGX3 hown hK hP 0 rfl rfl 15 (by decide) (hts _ wd452) (fun _ h9 => h9) rfl dX3_tryBit_84 ?_
  have hPc := hP.sub (ws' := [(om, .inr (3, [.int th, .int st, .int lo, .ref ob, .int bm.2.1, .int bm.2.2.1, .int bm.2.2.2.1, .int bm.2.2.2.2, .ref ok, .int km.2, .int qm.1, .int qm.2.1, .int qm.2.2.1, .int qm.2.2.2, .int bd, .int ym.1, .int ym.2.1, .int ym.2.2.1, .int ym.2.2.2])), (ob, .inl (cZ, 5200, .inl bm.1)), (ok, .inl (cK, 600, .inl km.1))]) [0, 1, 2] rfl
  have hKc := hK.sub (tys' := [(cZ, .boolean), (cK, .int)]) [0, 1] rfl
  refine vp_callSi (va_Run.run (va_runV (As := [.int ym.1]) (rest := []) ⟨hx, hb, hml, hown, hts⟩ (mX3_bitAt l dC dI cZ cK om ob ok st lo th bm km qm bd ym ym.1 (t_in hT)) (cwV 1 hts (gV wd569 wd570 wd21 wd30 wd571) rfl rfl rfl (by decide +kernel) ⟨Nat.le_of_ble_eq_true rfl, Nat.le_of_ble_eq_true rfl⟩) ⟨fb_ro, va_recv hKc hPc (ci := 3) (q0 := 0) rfl rfl, pre_ro hPc hKc hZ⟩ rfl rfl hl.1 rfl (lv_room (Nat.le_of_ble_eq_true rfl)) dX3_tryBit_87 ⟨Nat.le_of_ble_eq_true rfl, Nat.le_of_ble_eq_true rfl⟩)) (fun r_1 hw_2 => ?_)
  refine lv_istore_n (lv' := [(3, .int r_1), (0, .ref om)]) hx hb dX3_tryBit_90 rfl hl (by decide) rfl (fun ls hl => ?_)
  refine lv_aload_n hx hb dX3_tryBit_91 rfl (lv_at hl 1 rfl) ?_
  refine va_get (D := (dC, dI)) (ci := 3) (v := .int st) (C := RX3) (T := TX3) (N := 19) hx hb hts inGX3 hown hK hP 0 rfl rfl 1 (by decide) (hts _ wd438) (fun _ h9 => h9) rfl dX3_tryBit_92 ?_
  refine lv_iconst (v := 1) hx hb dX3_tryBit_95 (by decide) ?_
  refine lv_icmp_ne (tgt := 129) hx hb dX3_tryBit_96 (by decide) (fun c_96 => ?_) (fun c_96 => ?_)
  · refine lv_iconst (v := 0) hx hb dX3_tryBit_129 (by decide) ?_
    refine lv_istore (lv' := [(4, .int 0), (3, .int r_1), (0, .ref om)]) hx hb dX3_tryBit_130 hl (by decide) rfl (fun ls hl => ?_)
    exact kX3_tryBit_132 hx hb hr hml hown hts hlocks hA hZ hK  th bm km qm bd ym r_1 0 hY hT ((plX3_tryBit_l82_0 st lo th bm km qm bd ym _ hw_2 c_96).trans hz) _ _ (hP.sub (ws' := [(om, .inr (3, [.int th, .int st, .int lo, .ref ob, .int bm.2.1, .int bm.2.2.1, .int bm.2.2.2.1, .int bm.2.2.2.2, .ref ok, .int km.2, .int qm.1, .int qm.2.1, .int qm.2.2.1, .int qm.2.2.2, .int bd, .int ym.1, .int ym.2.1, .int ym.2.2.1, .int ym.2.2.2])), (ob, .inl (cZ, 5200, .inl bm.1)), (ok, .inl (cK, 600, .inl km.1))]) [0, 1, 2] rfl) (hD.sub (ws' := [(om, .inr (3, [.int th, .int st, .int lo, .ref ob, .int bm.2.1, .int bm.2.2.1, .int bm.2.2.2.1, .int bm.2.2.2.2, .ref ok, .int km.2, .int qm.1, .int qm.2.1, .int qm.2.2.1, .int qm.2.2.2, .int bd, .int ym.1, .int ym.2.1, .int ym.2.2.1, .int ym.2.2.2])), (ob, .inl (cZ, 5200, .inl bm.1)), (ok, .inl (cK, 600, .inl km.1))]) [0, 1, 2] (by decide) rfl) hS ls (lv_sub hl [2, 1, 0] rfl)
  · refine lv_aload_n hx hb dX3_tryBit_99 rfl (lv_at hl 1 rfl) ?_
    refine va_get (D := (dC, dI)) (ci := 3) (v := .int lo) (C := RX3) (T := TX3) (N := 19) hx hb hts inGX3 hown hK hP 0 rfl rfl 2 (by decide) (hts _ wd439) (fun _ h9 => h9) rfl dX3_tryBit_100 ?_
    refine lv_if_eq (tgt := 129) hx hb dX3_tryBit_103 (by decide) (fun c_103 => ?_) (fun c_103 => ?_)
    · refine lv_iconst (v := 0) hx hb dX3_tryBit_129 (by decide) ?_
      refine lv_istore (lv' := [(4, .int 0), (3, .int r_1), (0, .ref om)]) hx hb dX3_tryBit_130 hl (by decide) rfl (fun ls hl => ?_)
      exact kX3_tryBit_132 hx hb hr hml hown hts hlocks hA hZ hK  th bm km qm bd ym r_1 0 hY hT ((plX3_tryBit_l82_1 st lo th bm km qm bd ym _ hw_2 c_96 c_103).trans hz) _ _ (hP.sub (ws' := [(om, .inr (3, [.int th, .int st, .int lo, .ref ob, .int bm.2.1, .int bm.2.2.1, .int bm.2.2.2.1, .int bm.2.2.2.2, .ref ok, .int km.2, .int qm.1, .int qm.2.1, .int qm.2.2.1, .int qm.2.2.2, .int bd, .int ym.1, .int ym.2.1, .int ym.2.2.1, .int ym.2.2.2])), (ob, .inl (cZ, 5200, .inl bm.1)), (ok, .inl (cK, 600, .inl km.1))]) [0, 1, 2] rfl) (hD.sub (ws' := [(om, .inr (3, [.int th, .int st, .int lo, .ref ob, .int bm.2.1, .int bm.2.2.1, .int bm.2.2.2.1, .int bm.2.2.2.2, .ref ok, .int km.2, .int qm.1, .int qm.2.1, .int qm.2.2.1, .int qm.2.2.2, .int bd, .int ym.1, .int ym.2.1, .int ym.2.2.1, .int ym.2.2.2])), (ob, .inl (cZ, 5200, .inl bm.1)), (ok, .inl (cK, 600, .inl km.1))]) [0, 1, 2] (by decide) rfl) hS ls (lv_sub hl [2, 1, 0] rfl)
    · refine lv_aload_n hx hb dX3_tryBit_106 rfl (lv_at hl 1 rfl) ?_
      refine va_get (D := (dC, dI)) (ci := 3) (v := .int ym.2.2.2) (C := RX3) (T := TX3) (N := 19) hx hb hts inGX3 hown hK hP 0 rfl rfl 18 (by decide) (hts _ wd455) (fun _ h9 => h9) rfl dX3_tryBit_107 ?_
      refine lv_if_eq (tgt := 129) hx hb dX3_tryBit_110 (by decide) (fun c_110 => ?_) (fun c_110 => ?_)
      · refine lv_iconst (v := 0) hx hb dX3_tryBit_129 (by decide) ?_
        refine lv_istore (lv' := [(4, .int 0), (3, .int r_1), (0, .ref om)]) hx hb dX3_tryBit_130 hl (by decide) rfl (fun ls hl => ?_)
        exact kX3_tryBit_132 hx hb hr hml hown hts hlocks hA hZ hK  th bm km qm bd ym r_1 0 hY hT ((plX3_tryBit_l82_2 st lo th bm km qm bd ym _ hw_2 c_96 c_103 c_110).trans hz) _ _ (hP.sub (ws' := [(om, .inr (3, [.int th, .int st, .int lo, .ref ob, .int bm.2.1, .int bm.2.2.1, .int bm.2.2.2.1, .int bm.2.2.2.2, .ref ok, .int km.2, .int qm.1, .int qm.2.1, .int qm.2.2.1, .int qm.2.2.2, .int bd, .int ym.1, .int ym.2.1, .int ym.2.2.1, .int ym.2.2.2])), (ob, .inl (cZ, 5200, .inl bm.1)), (ok, .inl (cK, 600, .inl km.1))]) [0, 1, 2] rfl) (hD.sub (ws' := [(om, .inr (3, [.int th, .int st, .int lo, .ref ob, .int bm.2.1, .int bm.2.2.1, .int bm.2.2.2.1, .int bm.2.2.2.2, .ref ok, .int km.2, .int qm.1, .int qm.2.1, .int qm.2.2.1, .int qm.2.2.2, .int bd, .int ym.1, .int ym.2.1, .int ym.2.2.1, .int ym.2.2.2])), (ob, .inl (cZ, 5200, .inl bm.1)), (ok, .inl (cK, 600, .inl km.1))]) [0, 1, 2] (by decide) rfl) hS ls (lv_sub hl [2, 1, 0] rfl)
      · refine lv_aload_n hx hb dX3_tryBit_113 rfl (lv_at hl 1 rfl) ?_
        refine va_get (D := (dC, dI)) (ci := 3) (v := .int ym.1) (C := RX3) (T := TX3) (N := 19) hx hb hts inGX3 hown hK hP 0 rfl rfl 15 (by decide) (hts _ wd452) (fun _ h9 => h9) rfl dX3_tryBit_114 ?_
        refine lv_bipush (v := 8) hx hb dX3_tryBit_117 (by decide) ?_
        refine lv_irem hx hb dX3_tryBit_119 (by decide) ?_
        refine lv_bipush (v := 6) hx hb dX3_tryBit_120 (by decide) ?_
        refine lv_icmp_ne (tgt := 129) hx hb dX3_tryBit_122 (by decide) (fun c_122 => ?_) (fun c_122 => ?_)
        · refine lv_iconst (v := 0) hx hb dX3_tryBit_129 (by decide) ?_
          refine lv_istore (lv' := [(4, .int 0), (3, .int r_1), (0, .ref om)]) hx hb dX3_tryBit_130 hl (by decide) rfl (fun ls hl => ?_)
          exact kX3_tryBit_132 hx hb hr hml hown hts hlocks hA hZ hK  th bm km qm bd ym r_1 0 hY hT ((plX3_tryBit_l82_3 st lo th bm km qm bd ym _ hw_2 c_96 c_103 c_110 c_122).trans hz) _ _ (hP.sub (ws' := [(om, .inr (3, [.int th, .int st, .int lo, .ref ob, .int bm.2.1, .int bm.2.2.1, .int bm.2.2.2.1, .int bm.2.2.2.2, .ref ok, .int km.2, .int qm.1, .int qm.2.1, .int qm.2.2.1, .int qm.2.2.2, .int bd, .int ym.1, .int ym.2.1, .int ym.2.2.1, .int ym.2.2.2])), (ob, .inl (cZ, 5200, .inl bm.1)), (ok, .inl (cK, 600, .inl km.1))]) [0, 1, 2] rfl) (hD.sub (ws' := [(om, .inr (3, [.int th, .int st, .int lo, .ref ob, .int bm.2.1, .int bm.2.2.1, .int bm.2.2.2.1, .int bm.2.2.2.2, .ref ok, .int km.2, .int qm.1, .int qm.2.1, .int qm.2.2.1, .int qm.2.2.2, .int bd, .int ym.1, .int ym.2.1, .int ym.2.2.1, .int ym.2.2.2])), (ob, .inl (cZ, 5200, .inl bm.1)), (ok, .inl (cK, 600, .inl km.1))]) [0, 1, 2] (by decide) rfl) hS ls (lv_sub hl [2, 1, 0] rfl)
        · refine lv_iconst (v := 1) hx hb dX3_tryBit_125 (by decide) ?_
          refine lv_goto (tgt := 130) hx hb dX3_tryBit_126 (by decide) ?_
          refine lv_istore (lv' := [(4, .int 1), (3, .int r_1), (0, .ref om)]) hx hb dX3_tryBit_130 hl (by decide) rfl (fun ls hl => ?_)
          exact kX3_tryBit_132 hx hb hr hml hown hts hlocks hA hZ hK  th bm km qm bd ym r_1 1 hY hT ((plX3_tryBit_l82_4 st lo th bm km qm bd ym _ hw_2 c_96 c_103 c_110 c_122).trans hz) _ _ (hP.sub (ws' := [(om, .inr (3, [.int th, .int st, .int lo, .ref ob, .int bm.2.1, .int bm.2.2.1, .int bm.2.2.2.1, .int bm.2.2.2.2, .ref ok, .int km.2, .int qm.1, .int qm.2.1, .int qm.2.2.1, .int qm.2.2.2, .int bd, .int ym.1, .int ym.2.1, .int ym.2.2.1, .int ym.2.2.2])), (ob, .inl (cZ, 5200, .inl bm.1)), (ok, .inl (cK, 600, .inl km.1))]) [0, 1, 2] rfl) (hD.sub (ws' := [(om, .inr (3, [.int th, .int st, .int lo, .ref ob, .int bm.2.1, .int bm.2.2.1, .int bm.2.2.2.1, .int bm.2.2.2.2, .ref ok, .int km.2, .int qm.1, .int qm.2.1, .int qm.2.2.1, .int qm.2.2.2, .int bd, .int ym.1, .int ym.2.1, .int ym.2.2.1, .int ym.2.2.2])), (ob, .inl (cZ, 5200, .inl bm.1)), (ok, .inl (cK, 600, .inl km.1))]) [0, 1, 2] (by decide) rfl) hS ls (lv_sub hl [2, 1, 0] rfl)
set_option maxHeartbeats 4000000 in
set_option maxRecDepth 100000 in
theorem mX3_tryBit (l : Launch) (dC : Nat → ClassId) (dI : Nat → Nat → Nat) (cZ cK : ClassId) (om ob ok : Nat) (sz : Nat) (st : Int32) (lo : Int32) (th : Int32) (bm : Bm) (km : Rw) (qm : Tk) (bd : Int32) (ym : Tk) (hY : yOk km ym) : Met l yX3_tryBit (Cond.code yX3_tryBit cX3_tryBit 6 (some .int) :: G) ({ frames := 1, cells := 0, slots := 0, locals := 22 } : Room) (va_Pc [.ref om] (fun U => U.heap.size = sz ∧ va_P (dC, dI) vwCl [(om, .inr (3, [.int th, .int st, .int lo, .ref ob, .int bm.2.1, .int bm.2.2.1, .int bm.2.2.2.1, .int bm.2.2.2.2, .ref ok, .int km.2, .int qm.1, .int qm.2.1, .int qm.2.2.1, .int qm.2.2.2, .int bd, .int ym.1, .int ym.2.1, .int ym.2.2.1, .int ym.2.2.2])), (ob, .inl (cZ, 5200, .inl bm.1)), (ok, .inl (cK, 600, .inl km.1))] U.heap ∧ va_K (dC, dI) vwCl [(cZ, .boolean), (cK, .int)] U ∧ va_D (fun _ => True) [(om, .inr (3, [.int th, .int st, .int lo, .ref ob, .int bm.2.1, .int bm.2.2.1, .int bm.2.2.2.1, .int bm.2.2.2.2, .ref ok, .int km.2, .int qm.1, .int qm.2.1, .int qm.2.2.1, .int qm.2.2.2, .int bd, .int ym.1, .int ym.2.1, .int ym.2.2.1, .int ym.2.2.2])), (ob, .inl (cZ, 5200, .inl bm.1)), (ok, .inl (cK, 600, .inl km.1))] ∧ zOk U)) (va_Qi (fun (r : Int32) (u : Tk) => (r, u) = (FX3_tryBit st lo th bm km qm bd ym)) (fun (u : Tk) (t : State) => va_P (dC, dI) vwCl [(om, .inr (3, [.int th, .int st, .int lo, .ref ob, .int bm.2.1, .int bm.2.2.1, .int bm.2.2.2.1, .int bm.2.2.2.2, .ref ok, .int km.2, .int qm.1, .int qm.2.1, .int qm.2.2.1, .int qm.2.2.2, .int bd, .int u.1, .int u.2.1, .int u.2.2.1, .int u.2.2.2])), (ob, .inl (cZ, 5200, .inl bm.1)), (ok, .inl (cK, 600, .inl km.1))] t.heap ∧ va_D (va_A [(om, .inr (3, [.int th, .int st, .int lo, .ref ob, .int bm.2.1, .int bm.2.2.1, .int bm.2.2.2.1, .int bm.2.2.2.2, .ref ok, .int km.2, .int qm.1, .int qm.2.1, .int qm.2.2.1, .int qm.2.2.2, .int bd, .int ym.1, .int ym.2.1, .int ym.2.2.1, .int ym.2.2.2])), (ob, .inl (cZ, 5200, .inl bm.1)), (ok, .inl (cK, 600, .inl km.1))] sz) [(om, .inr (3, [.int th, .int st, .int lo, .ref ob, .int bm.2.1, .int bm.2.2.1, .int bm.2.2.2.1, .int bm.2.2.2.2, .ref ok, .int km.2, .int qm.1, .int qm.2.1, .int qm.2.2.1, .int qm.2.2.2, .int bd, .int u.1, .int u.2.1, .int u.2.2.1, .int u.2.2.2])), (ob, .inl (cZ, 5200, .inl bm.1)), (ok, .inl (cK, 600, .inl km.1))]) (va_A [(om, .inr (3, [.int th, .int st, .int lo, .ref ob, .int bm.2.1, .int bm.2.2.1, .int bm.2.2.2.1, .int bm.2.2.2.2, .ref ok, .int km.2, .int qm.1, .int qm.2.1, .int qm.2.2.1, .int qm.2.2.2, .int bd, .int ym.1, .int ym.2.1, .int ym.2.2.1, .int ym.2.2.2])), (ob, .inl (cZ, 5200, .inl bm.1)), (ok, .inl (cK, 600, .inl km.1))] sz)) 0 0 (va_A [(om, .inr (3, [.int th, .int st, .int lo, .ref ob, .int bm.2.1, .int bm.2.2.1, .int bm.2.2.2.1, .int bm.2.2.2.2, .ref ok, .int km.2, .int qm.1, .int qm.2.1, .int qm.2.2.1, .int qm.2.2.2, .int bd, .int ym.1, .int ym.2.1, .int ym.2.2.1, .int ym.2.2.2])), (ob, .inl (cZ, 5200, .inl bm.1)), (ok, .inl (cK, 600, .inl km.1))] sz) := by
  refine Met.ofW (cc := cX3_tryBit) (maxL := 6) (ret := (some .int)) (by decide) rfl ?_
  intro p e s m args below meth c s₁ B hml hv
  obtain ⟨rfl, hsz, hP, hK, hD0, hZ⟩ := hv
  have hx := B.exec
  have hb := B.bytes
  have hr := B.returns
  have hts : ∀ w ∈ G, w.before [.ref om].toArray s = true := fun w h => atoms_spec (ws := (Cond.code yX3_tryBit cX3_tryBit 6 (some .int) :: G)) B.pre w (List.mem_cons_of_mem _ h)
  have hown : s.vm.findClass RX3 = some m.cls := findClass_of_methodNamed B.named
  have hlocks := B.notSynchronized
  subst hsz
  have hD := hD0.self (sz := s.heap.size)
  generalize hAe : va_A [(om, .inr (3, [.int th, .int st, .int lo, .ref ob, .int bm.2.1, .int bm.2.2.1, .int bm.2.2.2.1, .int bm.2.2.2.2, .ref ok, .int km.2, .int qm.1, .int qm.2.1, .int qm.2.2.1, .int qm.2.2.2, .int bd, .int ym.1, .int ym.2.1, .int ym.2.2.1, .int ym.2.2.2])), (ob, .inl (cZ, 5200, .inl bm.1)), (ok, .inl (cK, 600, .inl km.1))] s.heap.size = A at hD ⊢
  have hA : ∀ q : Nat, s.heap.size ≤ q → A q := fun q h => by rw [← hAe]; exact Or.inr h
  have hS : va_S A s.heap s.heap [] := va_S.rf
  have hP : va_P (dC, dI) vwCl [(om, .inr (3, [.int th, .int st, .int lo, .ref ob, .int bm.2.1, .int bm.2.2.1, .int bm.2.2.2.1, .int bm.2.2.2.2, .ref ok, .int km.2, .int qm.1, .int qm.2.1, .int qm.2.2.1, .int qm.2.2.2, .int bd, .int ym.1, .int ym.2.1, .int ym.2.2.1, .int ym.2.2.2])), (ob, .inl (cZ, 5200, .inl bm.1)), (ok, .inl (cK, 600, .inl km.1))] s.heap := hP
  have hl := lv_entry ([.ref om]) (n := 6) (Nat.le_of_ble_eq_true rfl)
  rw [lg_entry_eq]
  generalize (lg_sl ([.ref om]) ++ List.replicate (6 - (lg_sl ([.ref om])).length) Slot.unset).toArray = ls at hl ⊢
  have hl : lv_has ls 6 [(0, .ref om)] := hl
  refine lv_aload_n hx hb dX3_tryBit_0 rfl (lv_at hl 0 rfl) ?_
  have hPc := hP.sub (ws' := [(om, .inr (3, [.int th, .int st, .int lo, .ref ob, .int bm.2.1, .int bm.2.2.1, .int bm.2.2.2.1, .int bm.2.2.2.2, .ref ok, .int km.2, .int qm.1, .int qm.2.1, .int qm.2.2.1, .int qm.2.2.2, .int bd, .int ym.1, .int ym.2.1, .int ym.2.2.1, .int ym.2.2.2])), (ob, .inl (cZ, 5200, .inl bm.1)), (ok, .inl (cK, 600, .inl km.1))]) [0, 1, 2] rfl
  have hKc := hK.sub (tys' := [(cZ, .boolean), (cK, .int)]) [0, 1] rfl
  refine vp_callSi (va_Run.run (va_runV (As := []) (rest := []) ⟨hx, hb, hml, hown, hts⟩ (mX3_obstacle l dC dI cZ cK om ob ok st lo th bm km qm bd ym hY.1) (cwV 0 hts (gV wd566 wd567 wd20 wd30 wd568) rfl rfl rfl (by decide +kernel) ⟨Nat.le_of_ble_eq_true rfl, Nat.le_of_ble_eq_true rfl⟩) ⟨fb_ro, va_recv hKc hPc (ci := 3) (q0 := 0) rfl rfl, pre_ro hPc hKc hZ⟩ rfl rfl hl.1 rfl (lv_room (Nat.le_of_ble_eq_true rfl)) dX3_tryBit_1 ⟨Nat.le_of_ble_eq_true rfl, Nat.le_of_ble_eq_true rfl⟩)) (fun r_1 hw_2 => ?_)
  refine lv_istore_n (lv' := [(1, .int r_1), (0, .ref om)]) hx hb dX3_tryBit_4 rfl hl (by decide) rfl (fun ls hl => ?_)
  refine lv_iload_n hx hb dX3_tryBit_5 rfl (lv_at hl 0 rfl) ?_
  refine lv_if_ge (tgt := 11) hx hb dX3_tryBit_6 (by decide) (fun c_6 => ?_) (fun c_6 => ?_)
  · refine lv_aload_n hx hb dX3_tryBit_11 rfl (lv_at hl 1 rfl) ?_
    refine va_get (D := (dC, dI)) (ci := 3) (v := .int ym.1) (C := RX3) (T := TX3) (N := 19) hx hb hts inGX3 hown hK hP 0 rfl rfl 15 (by decide) (hts _ wd452) (fun _ h9 => h9) rfl dX3_tryBit_12 ?_
    refine lv_bipush (v := 8) hx hb dX3_tryBit_15 (by decide) ?_
    refine lv_irem hx hb dX3_tryBit_17 (by decide) ?_
    refine lv_if_ne (tgt := 25) hx hb dX3_tryBit_18 (by decide) (fun c_18 => ?_) (fun c_18 => ?_)
    · refine lv_iconst (v := 0) hx hb dX3_tryBit_25 (by decide) ?_
      refine lv_istore_n (lv' := [(2, .int 0), (1, .int r_1), (0, .ref om)]) hx hb dX3_tryBit_26 rfl hl (by decide) rfl (fun ls hl => ?_)
      refine lv_aload_n hx hb dX3_tryBit_27 rfl (lv_at hl 2 rfl) ?_
      refine va_get (D := (dC, dI)) (ci := 3) (v := .int st) (C := RX3) (T := TX3) (N := 19) hx hb hts inGX3 hown hK hP 0 rfl rfl 1 (by decide) (hts _ wd438) (fun _ h9 => h9) rfl dX3_tryBit_28 ?_
      refine lv_iconst (v := 1) hx hb dX3_tryBit_31 (by decide) ?_
      refine lv_icmp_ne (tgt := 82) hx hb dX3_tryBit_32 (by decide) (fun c_32 => ?_) (fun c_32 => ?_)
      · exact kX3_tryBit_82 hx hb hr hml hown hts hlocks hA hZ hK  th bm km qm bd ym (by first | exact hY | exact (st_y hY (by assumption) c_6 c_18 (by assumption) (by rfl) (by rfl)).1) (by first | exact ob_t hY (by assumption) c_6 | exact (st_y hY (by assumption) c_6 c_18 (by assumption) (by rfl) (by rfl)).2) (plX3_tryBit_0 st lo th bm km qm bd ym _ hw_2 c_6 c_18 c_32) _ _ (hP.sub (ws' := [(om, .inr (3, [.int th, .int st, .int lo, .ref ob, .int bm.2.1, .int bm.2.2.1, .int bm.2.2.2.1, .int bm.2.2.2.2, .ref ok, .int km.2, .int qm.1, .int qm.2.1, .int qm.2.2.1, .int qm.2.2.2, .int bd, .int ym.1, .int ym.2.1, .int ym.2.2.1, .int ym.2.2.2])), (ob, .inl (cZ, 5200, .inl bm.1)), (ok, .inl (cK, 600, .inl km.1))]) [0, 1, 2] rfl) (hD.sub (ws' := [(om, .inr (3, [.int th, .int st, .int lo, .ref ob, .int bm.2.1, .int bm.2.2.1, .int bm.2.2.2.1, .int bm.2.2.2.2, .ref ok, .int km.2, .int qm.1, .int qm.2.1, .int qm.2.2.1, .int qm.2.2.2, .int bd, .int ym.1, .int ym.2.1, .int ym.2.2.1, .int ym.2.2.2])), (ob, .inl (cZ, 5200, .inl bm.1)), (ok, .inl (cK, 600, .inl km.1))]) [0, 1, 2] (by decide) rfl) hS ls (lv_sub hl [2] rfl)
      · refine lv_aload_n hx hb dX3_tryBit_35 rfl (lv_at hl 2 rfl) ?_
        refine va_get (D := (dC, dI)) (ci := 3) (v := .int lo) (C := RX3) (T := TX3) (N := 19) hx hb hts inGX3 hown hK hP 0 rfl rfl 2 (by decide) (hts _ wd439) (fun _ h9 => h9) rfl dX3_tryBit_36 ?_
        refine lv_if_ne (tgt := 82) hx hb dX3_tryBit_39 (by decide) (fun c_39 => ?_) (fun c_39 => ?_)
        · exact kX3_tryBit_82 hx hb hr hml hown hts hlocks hA hZ hK  th bm km qm bd ym (by first | exact hY | exact (st_y hY (by assumption) c_6 c_18 (by assumption) (by rfl) (by rfl)).1) (by first | exact ob_t hY (by assumption) c_6 | exact (st_y hY (by assumption) c_6 c_18 (by assumption) (by rfl) (by rfl)).2) (plX3_tryBit_1 st lo th bm km qm bd ym _ hw_2 c_6 c_18 c_32 c_39) _ _ (hP.sub (ws' := [(om, .inr (3, [.int th, .int st, .int lo, .ref ob, .int bm.2.1, .int bm.2.2.1, .int bm.2.2.2.1, .int bm.2.2.2.2, .ref ok, .int km.2, .int qm.1, .int qm.2.1, .int qm.2.2.1, .int qm.2.2.2, .int bd, .int ym.1, .int ym.2.1, .int ym.2.2.1, .int ym.2.2.2])), (ob, .inl (cZ, 5200, .inl bm.1)), (ok, .inl (cK, 600, .inl km.1))]) [0, 1, 2] rfl) (hD.sub (ws' := [(om, .inr (3, [.int th, .int st, .int lo, .ref ob, .int bm.2.1, .int bm.2.2.1, .int bm.2.2.2.1, .int bm.2.2.2.2, .ref ok, .int km.2, .int qm.1, .int qm.2.1, .int qm.2.2.1, .int qm.2.2.2, .int bd, .int ym.1, .int ym.2.1, .int ym.2.2.1, .int ym.2.2.2])), (ob, .inl (cZ, 5200, .inl bm.1)), (ok, .inl (cK, 600, .inl km.1))]) [0, 1, 2] (by decide) rfl) hS ls (lv_sub hl [2] rfl)
        · refine lv_aload_n hx hb dX3_tryBit_42 rfl (lv_at hl 2 rfl) ?_
          refine va_get (D := (dC, dI)) (ci := 3) (v := .int ym.2.2.2) (C := RX3) (T := TX3) (N := 19) hx hb hts inGX3 hown hK hP 0 rfl rfl 18 (by decide) (hts _ wd455) (fun _ h9 => h9) rfl dX3_tryBit_43 ?_
          refine lv_if_eq (tgt := 82) hx hb dX3_tryBit_46 (by decide) (fun c_46 => ?_) (fun c_46 => ?_)
          · exact kX3_tryBit_82 hx hb hr hml hown hts hlocks hA hZ hK  th bm km qm bd ym (by first | exact hY | exact (st_y hY (by assumption) c_6 c_18 (by assumption) (by rfl) (by rfl)).1) (by first | exact ob_t hY (by assumption) c_6 | exact (st_y hY (by assumption) c_6 c_18 (by assumption) (by rfl) (by rfl)).2) (plX3_tryBit_2 st lo th bm km qm bd ym _ hw_2 c_6 c_18 c_32 c_39 c_46) _ _ (hP.sub (ws' := [(om, .inr (3, [.int th, .int st, .int lo, .ref ob, .int bm.2.1, .int bm.2.2.1, .int bm.2.2.2.1, .int bm.2.2.2.2, .ref ok, .int km.2, .int qm.1, .int qm.2.1, .int qm.2.2.1, .int qm.2.2.2, .int bd, .int ym.1, .int ym.2.1, .int ym.2.2.1, .int ym.2.2.2])), (ob, .inl (cZ, 5200, .inl bm.1)), (ok, .inl (cK, 600, .inl km.1))]) [0, 1, 2] rfl) (hD.sub (ws' := [(om, .inr (3, [.int th, .int st, .int lo, .ref ob, .int bm.2.1, .int bm.2.2.1, .int bm.2.2.2.1, .int bm.2.2.2.2, .ref ok, .int km.2, .int qm.1, .int qm.2.1, .int qm.2.2.1, .int qm.2.2.2, .int bd, .int ym.1, .int ym.2.1, .int ym.2.2.1, .int ym.2.2.2])), (ob, .inl (cZ, 5200, .inl bm.1)), (ok, .inl (cK, 600, .inl km.1))]) [0, 1, 2] (by decide) rfl) hS ls (lv_sub hl [2] rfl)
          · refine lv_iload_n hx hb dX3_tryBit_49 rfl (lv_at hl 0 rfl) ?_
            refine lv_if_eq (tgt := 82) hx hb dX3_tryBit_50 (by decide) (fun c_50 => ?_) (fun c_50 => absurd c_50 (by decide))
            exact kX3_tryBit_82 hx hb hr hml hown hts hlocks hA hZ hK  th bm km qm bd ym (by first | exact hY | exact (st_y hY (by assumption) c_6 c_18 (by assumption) (by rfl) (by rfl)).1) (by first | exact ob_t hY (by assumption) c_6 | exact (st_y hY (by assumption) c_6 c_18 (by assumption) (by rfl) (by rfl)).2) (plX3_tryBit_3 st lo th bm km qm bd ym _ hw_2 c_6 c_18 c_32 c_39 c_46) _ _ (hP.sub (ws' := [(om, .inr (3, [.int th, .int st, .int lo, .ref ob, .int bm.2.1, .int bm.2.2.1, .int bm.2.2.2.1, .int bm.2.2.2.2, .ref ok, .int km.2, .int qm.1, .int qm.2.1, .int qm.2.2.1, .int qm.2.2.2, .int bd, .int ym.1, .int ym.2.1, .int ym.2.2.1, .int ym.2.2.2])), (ob, .inl (cZ, 5200, .inl bm.1)), (ok, .inl (cK, 600, .inl km.1))]) [0, 1, 2] rfl) (hD.sub (ws' := [(om, .inr (3, [.int th, .int st, .int lo, .ref ob, .int bm.2.1, .int bm.2.2.1, .int bm.2.2.2.1, .int bm.2.2.2.2, .ref ok, .int km.2, .int qm.1, .int qm.2.1, .int qm.2.2.1, .int qm.2.2.2, .int bd, .int ym.1, .int ym.2.1, .int ym.2.2.1, .int ym.2.2.2])), (ob, .inl (cZ, 5200, .inl bm.1)), (ok, .inl (cK, 600, .inl km.1))]) [0, 1, 2] (by decide) rfl) hS ls (lv_sub hl [2] rfl)
    · refine lv_iconst (v := 1) hx hb dX3_tryBit_21 (by decide) ?_
      refine lv_goto (tgt := 26) hx hb dX3_tryBit_22 (by decide) ?_
      refine lv_istore_n (lv' := [(2, .int 1), (1, .int r_1), (0, .ref om)]) hx hb dX3_tryBit_26 rfl hl (by decide) rfl (fun ls hl => ?_)
      refine lv_aload_n hx hb dX3_tryBit_27 rfl (lv_at hl 2 rfl) ?_
      refine va_get (D := (dC, dI)) (ci := 3) (v := .int st) (C := RX3) (T := TX3) (N := 19) hx hb hts inGX3 hown hK hP 0 rfl rfl 1 (by decide) (hts _ wd438) (fun _ h9 => h9) rfl dX3_tryBit_28 ?_
      refine lv_iconst (v := 1) hx hb dX3_tryBit_31 (by decide) ?_
      refine lv_icmp_ne (tgt := 82) hx hb dX3_tryBit_32 (by decide) (fun c_32 => ?_) (fun c_32 => ?_)
      · exact kX3_tryBit_82 hx hb hr hml hown hts hlocks hA hZ hK  th bm km qm bd ym (by first | exact hY | exact (st_y hY (by assumption) c_6 c_18 (by assumption) (by rfl) (by rfl)).1) (by first | exact ob_t hY (by assumption) c_6 | exact (st_y hY (by assumption) c_6 c_18 (by assumption) (by rfl) (by rfl)).2) (plX3_tryBit_4 st lo th bm km qm bd ym _ hw_2 c_6 c_18 c_32) _ _ (hP.sub (ws' := [(om, .inr (3, [.int th, .int st, .int lo, .ref ob, .int bm.2.1, .int bm.2.2.1, .int bm.2.2.2.1, .int bm.2.2.2.2, .ref ok, .int km.2, .int qm.1, .int qm.2.1, .int qm.2.2.1, .int qm.2.2.2, .int bd, .int ym.1, .int ym.2.1, .int ym.2.2.1, .int ym.2.2.2])), (ob, .inl (cZ, 5200, .inl bm.1)), (ok, .inl (cK, 600, .inl km.1))]) [0, 1, 2] rfl) (hD.sub (ws' := [(om, .inr (3, [.int th, .int st, .int lo, .ref ob, .int bm.2.1, .int bm.2.2.1, .int bm.2.2.2.1, .int bm.2.2.2.2, .ref ok, .int km.2, .int qm.1, .int qm.2.1, .int qm.2.2.1, .int qm.2.2.2, .int bd, .int ym.1, .int ym.2.1, .int ym.2.2.1, .int ym.2.2.2])), (ob, .inl (cZ, 5200, .inl bm.1)), (ok, .inl (cK, 600, .inl km.1))]) [0, 1, 2] (by decide) rfl) hS ls (lv_sub hl [2] rfl)
      · refine lv_aload_n hx hb dX3_tryBit_35 rfl (lv_at hl 2 rfl) ?_
        refine va_get (D := (dC, dI)) (ci := 3) (v := .int lo) (C := RX3) (T := TX3) (N := 19) hx hb hts inGX3 hown hK hP 0 rfl rfl 2 (by decide) (hts _ wd439) (fun _ h9 => h9) rfl dX3_tryBit_36 ?_
        refine lv_if_ne (tgt := 82) hx hb dX3_tryBit_39 (by decide) (fun c_39 => ?_) (fun c_39 => ?_)
        · exact kX3_tryBit_82 hx hb hr hml hown hts hlocks hA hZ hK  th bm km qm bd ym (by first | exact hY | exact (st_y hY (by assumption) c_6 c_18 (by assumption) (by rfl) (by rfl)).1) (by first | exact ob_t hY (by assumption) c_6 | exact (st_y hY (by assumption) c_6 c_18 (by assumption) (by rfl) (by rfl)).2) (plX3_tryBit_5 st lo th bm km qm bd ym _ hw_2 c_6 c_18 c_32 c_39) _ _ (hP.sub (ws' := [(om, .inr (3, [.int th, .int st, .int lo, .ref ob, .int bm.2.1, .int bm.2.2.1, .int bm.2.2.2.1, .int bm.2.2.2.2, .ref ok, .int km.2, .int qm.1, .int qm.2.1, .int qm.2.2.1, .int qm.2.2.2, .int bd, .int ym.1, .int ym.2.1, .int ym.2.2.1, .int ym.2.2.2])), (ob, .inl (cZ, 5200, .inl bm.1)), (ok, .inl (cK, 600, .inl km.1))]) [0, 1, 2] rfl) (hD.sub (ws' := [(om, .inr (3, [.int th, .int st, .int lo, .ref ob, .int bm.2.1, .int bm.2.2.1, .int bm.2.2.2.1, .int bm.2.2.2.2, .ref ok, .int km.2, .int qm.1, .int qm.2.1, .int qm.2.2.1, .int qm.2.2.2, .int bd, .int ym.1, .int ym.2.1, .int ym.2.2.1, .int ym.2.2.2])), (ob, .inl (cZ, 5200, .inl bm.1)), (ok, .inl (cK, 600, .inl km.1))]) [0, 1, 2] (by decide) rfl) hS ls (lv_sub hl [2] rfl)
        · refine lv_aload_n hx hb dX3_tryBit_42 rfl (lv_at hl 2 rfl) ?_
          refine va_get (D := (dC, dI)) (ci := 3) (v := .int ym.2.2.2) (C := RX3) (T := TX3) (N := 19) hx hb hts inGX3 hown hK hP 0 rfl rfl 18 (by decide) (hts _ wd455) (fun _ h9 => h9) rfl dX3_tryBit_43 ?_
          refine lv_if_eq (tgt := 82) hx hb dX3_tryBit_46 (by decide) (fun c_46 => ?_) (fun c_46 => ?_)
          · exact kX3_tryBit_82 hx hb hr hml hown hts hlocks hA hZ hK  th bm km qm bd ym (by first | exact hY | exact (st_y hY (by assumption) c_6 c_18 (by assumption) (by rfl) (by rfl)).1) (by first | exact ob_t hY (by assumption) c_6 | exact (st_y hY (by assumption) c_6 c_18 (by assumption) (by rfl) (by rfl)).2) (plX3_tryBit_6 st lo th bm km qm bd ym _ hw_2 c_6 c_18 c_32 c_39 c_46) _ _ (hP.sub (ws' := [(om, .inr (3, [.int th, .int st, .int lo, .ref ob, .int bm.2.1, .int bm.2.2.1, .int bm.2.2.2.1, .int bm.2.2.2.2, .ref ok, .int km.2, .int qm.1, .int qm.2.1, .int qm.2.2.1, .int qm.2.2.2, .int bd, .int ym.1, .int ym.2.1, .int ym.2.2.1, .int ym.2.2.2])), (ob, .inl (cZ, 5200, .inl bm.1)), (ok, .inl (cK, 600, .inl km.1))]) [0, 1, 2] rfl) (hD.sub (ws' := [(om, .inr (3, [.int th, .int st, .int lo, .ref ob, .int bm.2.1, .int bm.2.2.1, .int bm.2.2.2.1, .int bm.2.2.2.2, .ref ok, .int km.2, .int qm.1, .int qm.2.1, .int qm.2.2.1, .int qm.2.2.2, .int bd, .int ym.1, .int ym.2.1, .int ym.2.2.1, .int ym.2.2.2])), (ob, .inl (cZ, 5200, .inl bm.1)), (ok, .inl (cK, 600, .inl km.1))]) [0, 1, 2] (by decide) rfl) hS ls (lv_sub hl [2] rfl)
          · refine lv_iload_n hx hb dX3_tryBit_49 rfl (lv_at hl 0 rfl) ?_
            refine lv_if_eq (tgt := 82) hx hb dX3_tryBit_50 (by decide) (fun c_50 => absurd c_50 (by decide)) (fun c_50 => ?_)
            refine lv_aload_n hx hb dX3_tryBit_53 rfl (lv_at hl 2 rfl) ?_
            refine lv_aload_n hx hb dX3_tryBit_54 rfl (lv_at hl 2 rfl) ?_
            refine va_get (D := (dC, dI)) (ci := 3) (v := .int ym.1) (C := RX3) (T := TX3) (N := 19) hx hb hts inGX3 hown hK hP 0 rfl rfl 15 (by decide) (hts _ wd452) (fun _ h9 => h9) rfl dX3_tryBit_55 ?_
            have hPc := hP.sub (ws' := [(om, .inr (3, [.int th, .int st, .int lo, .ref ob, .int bm.2.1, .int bm.2.2.1, .int bm.2.2.2.1, .int bm.2.2.2.2, .ref ok, .int km.2, .int qm.1, .int qm.2.1, .int qm.2.2.1, .int qm.2.2.2, .int bd, .int ym.1, .int ym.2.1, .int ym.2.2.1, .int ym.2.2.2])), (ob, .inl (cZ, 5200, .inl bm.1)), (ok, .inl (cK, 600, .inl km.1))]) [0, 1, 2] rfl
            have hKc := hK.sub (tys' := [(cZ, .boolean), (cK, .int)]) [0, 1] rfl
            refine vp_callSi (va_Run.run (va_runV (As := [.int ym.1]) (rest := []) ⟨hx, hb, hml, hown, hts⟩ (mX3_bitAt l dC dI cZ cK om ob ok st lo th bm km qm bd ym ym.1 (t_in (ob_t hY (by assumption) c_6))) (cwV 1 hts (gV wd569 wd570 wd21 wd30 wd571) rfl rfl rfl (by decide +kernel) ⟨Nat.le_of_ble_eq_true rfl, Nat.le_of_ble_eq_true rfl⟩) ⟨fb_ro, va_recv hKc hPc (ci := 3) (q0 := 0) rfl rfl, pre_ro hPc hKc hZ⟩ rfl rfl hl.1 rfl (lv_room (Nat.le_of_ble_eq_true rfl)) dX3_tryBit_58 ⟨Nat.le_of_ble_eq_true rfl, Nat.le_of_ble_eq_true rfl⟩)) (fun r_3 hw_4 => ?_)
            refine lv_iconst (v := 1) hx hb dX3_tryBit_61 (by decide) ?_
            refine lv_icmp_ne (tgt := 68) hx hb dX3_tryBit_62 (by decide) (fun c_62 => ?_) (fun c_62 => ?_)
            · refine lv_aload_n hx hb dX3_tryBit_68 rfl (lv_at hl 2 rfl) ?_
              refine lv_dup hx hb dX3_tryBit_69 rfl ?_
              refine va_get (D := (dC, dI)) (ci := 3) (v := .int ym.2.1) (C := RX3) (T := TX3) (N := 19) hx hb hts inGX3 hown hK hP 0 rfl rfl 16 (by decide) (hts _ wd453) (fun _ h9 => h9) rfl dX3_tryBit_70 ?_
              refine lv_iconst (v := 1) hx hb dX3_tryBit_73 (by decide) ?_
              refine lv_iadd hx hb dX3_tryBit_74 ?_
              refine lv_topi (fun f_5 ef_5 => ?_)
              refine va_put (D := (dC, dI)) (ci := 3) (v := .int f_5) (ty := .int) (C := RX3) (T := TX3) (N := 19) hx hb hts inGX3 tyX3 tyX3_ok nmX3 hown hK hP hD hS 0 rfl rfl 16 (by decide) (hts _ wd453) (fun _ h9 => h9) rfl (by decide +kernel) rfl rfl (Nat.le_of_ble_eq_true rfl) dX3_tryBit_75 (fun H locs hP hD hS => ?_)
              have hP : va_P (dC, dI) vwCl [(om, .inr (3, [.int th, .int st, .int lo, .ref ob, .int bm.2.1, .int bm.2.2.1, .int bm.2.2.2.1, .int bm.2.2.2.2, .ref ok, .int km.2, .int qm.1, .int qm.2.1, .int qm.2.2.1, .int qm.2.2.2, .int bd, .int ym.1, .int f_5, .int ym.2.2.1, .int ym.2.2.2])), (ob, .inl (cZ, 5200, .inl bm.1)), (ok, .inl (cK, 600, .inl km.1))] H := hP
              have hD : va_D A [(om, .inr (3, [.int th, .int st, .int lo, .ref ob, .int bm.2.1, .int bm.2.2.1, .int bm.2.2.2.1, .int bm.2.2.2.2, .ref ok, .int km.2, .int qm.1, .int qm.2.1, .int qm.2.2.1, .int qm.2.2.2, .int bd, .int ym.1, .int f_5, .int ym.2.2.1, .int ym.2.2.2])), (ob, .inl (cZ, 5200, .inl bm.1)), (ok, .inl (cK, 600, .inl km.1))] := hD
              refine lv_aload_n hx hb dX3_tryBit_78 rfl (lv_at hl 2 rfl) ?_
              have hPc := hP.sub (ws' := [(om, .inr (3, [.int th, .int st, .int lo, .ref ob, .int bm.2.1, .int bm.2.2.1, .int bm.2.2.2.1, .int bm.2.2.2.2, .ref ok, .int km.2, .int qm.1, .int qm.2.1, .int qm.2.2.1, .int qm.2.2.2, .int bd, .int ym.1, .int f_5, .int ym.2.2.1, .int ym.2.2.2])), (ob, .inl (cZ, 5200, .inl bm.1)), (ok, .inl (cK, 600, .inl km.1))]) [0, 1, 2] rfl
              have hKc := hK.sub (tys' := [(cZ, .boolean), (cK, .int)]) [0, 1] rfl
              have hDc := hD.sub (ws' := [(om, .inr (3, [.int th, .int st, .int lo, .ref ob, .int bm.2.1, .int bm.2.2.1, .int bm.2.2.2.1, .int bm.2.2.2.2, .ref ok, .int km.2, .int qm.1, .int qm.2.1, .int qm.2.2.1, .int qm.2.2.2, .int bd, .int ym.1, .int f_5, .int ym.2.2.1, .int ym.2.2.2])), (ob, .inl (cZ, 5200, .inl bm.1)), (ok, .inl (cK, 600, .inl km.1))]) [0, 1, 2] (by decide) rfl
              have hFc := va_free (wc := [(om, .inr (3, [.int th, .int st, .int lo, .ref ob, .int bm.2.1, .int bm.2.2.1, .int bm.2.2.2.1, .int bm.2.2.2.2, .ref ok, .int km.2, .int qm.1, .int qm.2.1, .int qm.2.2.1, .int qm.2.2.2, .int bd, .int ym.1, .int f_5, .int ym.2.2.1, .int ym.2.2.2])), (ob, .inl (cZ, 5200, .inl bm.1)), (ok, .inl (cK, 600, .inl km.1))]) hD hS hA [0, 1, 2] rfl
              refine va_callv (va_runV (As := []) (rest := []) ⟨hx, hb, hml, hown, hts⟩ (mX3_goOn l dC dI cZ cK om ob ok H.size st lo th bm km qm bd (ym.1, f_5, ym.2.2.1, ym.2.2.2) (ob_t (st := st) (lo := lo) (th := th) (bm := bm) (qm := qm) (bd := bd) (ym := ym) hY (by assumption) c_6)) (cwV 0 hts (gV wd572 wd573 wd22 wd30 wd574) rfl rfl rfl (by decide +kernel) ⟨Nat.le_of_ble_eq_true rfl, Nat.le_of_ble_eq_true rfl⟩) ⟨fb_rw, va_recv hKc hPc (ci := 3) (q0 := 0) rfl rfl, pre_rw hPc hKc hDc hZ⟩ rfl rfl hl.1 rfl (lv_room (Nat.le_of_ble_eq_true rfl)) dX3_tryBit_79 ⟨Nat.le_of_ble_eq_true rfl, Nat.le_of_ble_eq_true rfl⟩) hS (fun q _ h => hFc q h) hFc (fun u_7 t H1 locs ht hvm hw_6 hB hz1 hk1 hS => ?_)
              obtain ⟨hP1, hD1⟩ := hB
              rw [ht] at hP1
              obtain ⟨hP, hD⟩ := va_join (wr := []) (w1 := [(om, .inr (3, [.int th, .int st, .int lo, .ref ob, .int bm.2.1, .int bm.2.2.1, .int bm.2.2.2.1, .int bm.2.2.2.2, .ref ok, .int km.2, .int qm.1, .int qm.2.1, .int qm.2.2.1, .int qm.2.2.2, .int bd, .int u_7.1, .int u_7.2.1, .int u_7.2.2.1, .int u_7.2.2.2])), (ob, .inl (cZ, 5200, .inl bm.1)), (ok, .inl (cK, 600, .inl km.1))]) hP hD [0, 1, 2] [] rfl rfl (by decide) (by decide) hk1 hFc hP1 hD1
              generalize H1 = H at hP hS ⊢
              have hP : va_P (dC, dI) vwCl [(om, .inr (3, [.int th, .int st, .int lo, .ref ob, .int bm.2.1, .int bm.2.2.1, .int bm.2.2.2.1, .int bm.2.2.2.2, .ref ok, .int km.2, .int qm.1, .int qm.2.1, .int qm.2.2.1, .int qm.2.2.2, .int bd, .int u_7.1, .int u_7.2.1, .int u_7.2.2.1, .int u_7.2.2.2])), (ob, .inl (cZ, 5200, .inl bm.1)), (ok, .inl (cK, 600, .inl km.1))] H := hP
              have hD : va_D A [(om, .inr (3, [.int th, .int st, .int lo, .ref ob, .int bm.2.1, .int bm.2.2.1, .int bm.2.2.2.1, .int bm.2.2.2.2, .ref ok, .int km.2, .int qm.1, .int qm.2.1, .int qm.2.2.1, .int qm.2.2.2, .int bd, .int u_7.1, .int u_7.2.1, .int u_7.2.2.1, .int u_7.2.2.2])), (ob, .inl (cZ, 5200, .inl bm.1)), (ok, .inl (cK, 600, .inl km.1))] := hD
              exact kX3_tryBit_82 hx hb hr hml hown hts hlocks hA hZ hK  th bm km qm bd u_7 (by first | exact hY | exact (st_y hY (by assumption) c_6 c_18 (by assumption) (by rfl) (by rfl)).1) (by first | exact ob_t hY (by assumption) c_6 | exact (st_y hY (by assumption) c_6 c_18 (by assumption) (by rfl) (by rfl)).2) (plX3_tryBit_7 st lo th bm km qm bd ym _ hw_2 c_6 c_18 c_32 c_39 c_46 _ hw_4 c_62 _ ef_5 _ hw_6) _ _ (hP.sub (ws' := [(om, .inr (3, [.int th, .int st, .int lo, .ref ob, .int bm.2.1, .int bm.2.2.1, .int bm.2.2.2.1, .int bm.2.2.2.2, .ref ok, .int km.2, .int qm.1, .int qm.2.1, .int qm.2.2.1, .int qm.2.2.2, .int bd, .int u_7.1, .int u_7.2.1, .int u_7.2.2.1, .int u_7.2.2.2])), (ob, .inl (cZ, 5200, .inl bm.1)), (ok, .inl (cK, 600, .inl km.1))]) [0, 1, 2] rfl) (hD.sub (ws' := [(om, .inr (3, [.int th, .int st, .int lo, .ref ob, .int bm.2.1, .int bm.2.2.1, .int bm.2.2.2.1, .int bm.2.2.2.2, .ref ok, .int km.2, .int qm.1, .int qm.2.1, .int qm.2.2.1, .int qm.2.2.2, .int bd, .int u_7.1, .int u_7.2.1, .int u_7.2.2.1, .int u_7.2.2.2])), (ob, .inl (cZ, 5200, .inl bm.1)), (ok, .inl (cK, 600, .inl km.1))]) [0, 1, 2] (by decide) rfl) hS ls (lv_sub hl [2] rfl)
            · refine lv_bipush (v := (-3)) hx hb dX3_tryBit_65 (by decide) ?_
              have hP9 := hP.sub (ws' := [(om, .inr (3, [.int th, .int st, .int lo, .ref ob, .int bm.2.1, .int bm.2.2.1, .int bm.2.2.2.1, .int bm.2.2.2.2, .ref ok, .int km.2, .int qm.1, .int qm.2.1, .int qm.2.2.1, .int qm.2.2.2, .int bd, .int ym.1, .int ym.2.1, .int ym.2.2.1, .int ym.2.2.2])), (ob, .inl (cZ, 5200, .inl bm.1)), (ok, .inl (cK, 600, .inl km.1))]) [0, 1, 2] rfl
              have hD9 := hD.sub (ws' := [(om, .inr (3, [.int th, .int st, .int lo, .ref ob, .int bm.2.1, .int bm.2.2.1, .int bm.2.2.2.1, .int bm.2.2.2.2, .ref ok, .int km.2, .int qm.1, .int qm.2.1, .int qm.2.2.1, .int qm.2.2.2, .int bd, .int ym.1, .int ym.2.1, .int ym.2.2.1, .int ym.2.2.2])), (ob, .inl (cZ, 5200, .inl bm.1)), (ok, .inl (cK, 600, .inl km.1))]) [0, 1, 2] (by decide) rfl
              exact W.iret (v := (-3)) hx hb hr (fun t ht hW => ⟨⟨(-3), ym, rfl, (plX3_tryBit_8 st lo th bm km qm bd ym _ hw_2 c_6 c_18 c_32 c_39 c_46 _ hw_4 c_62), by rw [ht]; exact hP9, hD9⟩, hS.F ht⟩) hS.2.2 dX3_tryBit_67
  · refine lv_iload_n hx hb dX3_tryBit_9 rfl (lv_at hl 0 rfl) ?_
    have hP9 := hP.sub (ws' := [(om, .inr (3, [.int th, .int st, .int lo, .ref ob, .int bm.2.1, .int bm.2.2.1, .int bm.2.2.2.1, .int bm.2.2.2.2, .ref ok, .int km.2, .int qm.1, .int qm.2.1, .int qm.2.2.1, .int qm.2.2.2, .int bd, .int ym.1, .int ym.2.1, .int ym.2.2.1, .int ym.2.2.2])), (ob, .inl (cZ, 5200, .inl bm.1)), (ok, .inl (cK, 600, .inl km.1))]) [0, 1, 2] rfl
    have hD9 := hD.sub (ws' := [(om, .inr (3, [.int th, .int st, .int lo, .ref ob, .int bm.2.1, .int bm.2.2.1, .int bm.2.2.2.1, .int bm.2.2.2.2, .ref ok, .int km.2, .int qm.1, .int qm.2.1, .int qm.2.2.1, .int qm.2.2.2, .int bd, .int ym.1, .int ym.2.1, .int ym.2.2.1, .int ym.2.2.2])), (ob, .inl (cZ, 5200, .inl bm.1)), (ok, .inl (cK, 600, .inl km.1))]) [0, 1, 2] (by decide) rfl
    exact W.iret (v := r_1) hx hb hr (fun t ht hW => ⟨⟨r_1, ym, rfl, (plX3_tryBit_9 st lo th bm km qm bd ym _ hw_2 c_6), by rw [ht]; exact hP9, hD9⟩, hS.F ht⟩) hS.2.2 dX3_tryBit_10
