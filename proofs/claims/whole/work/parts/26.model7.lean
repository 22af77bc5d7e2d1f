def FX3_init (p0 : Int32) (p1 : Int32) : Int32 × Int32 × Int32 × Bm × Rw × Tk × Int32 × Tk :=
  if 0 ≤ p0 then
    if p0 ≤ 16 then
      if p1 = 0 then
        (p0, 0, 0, (fun _ => 0, 0, 0, 0, 0), (fun _ => 0, 0), (0, 0, 0, 0), 0, (0, 0, 0, 0))
      else
        (p0, 1, 0, (fun _ => 0, 0, 0, 0, 0), (fun _ => 0, 0), (0, 0, 0, 0), 0, (0, 0, 0, 0))
    else
      if p1 = 0 then
        (16, 0, 0, (fun _ => 0, 0, 0, 0, 0), (fun _ => 0, 0), (0, 0, 0, 0), 0, (0, 0, 0, 0))
      else
        (16, 1, 0, (fun _ => 0, 0, 0, 0, 0), (fun _ => 0, 0), (0, 0, 0, 0), 0, (0, 0, 0, 0))
  else
    if p1 = 0 then
      (0, 0, 0, (fun _ => 0, 0, 0, 0, 0), (fun _ => 0, 0), (0, 0, 0, 0), 0, (0, 0, 0, 0))
    else
      (0, 1, 0, (fun _ => 0, 0, 0, 0, 0), (fun _ => 0, 0), (0, 0, 0, 0), 0, (0, 0, 0, 0))
set_option maxRecDepth 100000 in
theorem plX3_init_0 (p0 : Int32) (p1 : Int32) (c_24 : 0 ≤ p0) (c_34 : p0 ≤ 16) (c_48 : p1 = 0) : (p0, 0, 0, (fun _ => 0, 0, 0, 0, 0), (fun _ => 0, 0), (0, 0, 0, 0), 0, (0, 0, 0, 0)) = FX3_init p0 p1 := by
  exact (((if_pos c_24).trans (if_pos c_34)).trans (if_pos c_48)).symm
set_option maxRecDepth 100000 in
theorem plX3_init_1 (p0 : Int32) (p1 : Int32) (c_24 : 0 ≤ p0) (c_34 : p0 ≤ 16) (c_48 : ¬ (p1 = 0)) : (p0, 1, 0, (fun _ => 0, 0, 0, 0, 0), (fun _ => 0, 0), (0, 0, 0, 0), 0, (0, 0, 0, 0)) = FX3_init p0 p1 := by
  exact (((if_pos c_24).trans (if_pos c_34)).trans (if_neg c_48)).symm
set_option maxRecDepth 100000 in
theorem plX3_init_2 (p0 : Int32) (p1 : Int32) (c_24 : 0 ≤ p0) (c_34 : ¬ (p0 ≤ 16)) (c_48 : p1 = 0) : (16, 0, 0, (fun _ => 0, 0, 0, 0, 0), (fun _ => 0, 0), (0, 0, 0, 0), 0, (0, 0, 0, 0)) = FX3_init p0 p1 := by
  exact (((if_pos c_24).trans (if_neg c_34)).trans (if_pos c_48)).symm
set_option maxRecDepth 100000 in
theorem plX3_init_3 (p0 : Int32) (p1 : Int32) (c_24 : 0 ≤ p0) (c_34 : ¬ (p0 ≤ 16)) (c_48 : ¬ (p1 = 0)) : (16, 1, 0, (fun _ => 0, 0, 0, 0, 0), (fun _ => 0, 0), (0, 0, 0, 0), 0, (0, 0, 0, 0)) = FX3_init p0 p1 := by
  exact (((if_pos c_24).trans (if_neg c_34)).trans (if_neg c_48)).symm
set_option maxRecDepth 100000 in
theorem plX3_init_4 (p0 : Int32) (p1 : Int32) (c_24 : ¬ (0 ≤ p0)) (c_48 : p1 = 0) : (0, 0, 0, (fun _ => 0, 0, 0, 0, 0), (fun _ => 0, 0), (0, 0, 0, 0), 0, (0, 0, 0, 0)) = FX3_init p0 p1 := by
  exact ((if_neg c_24).trans (if_pos c_48)).symm
set_option maxRecDepth 100000 in
theorem plX3_init_5 (p0 : Int32) (p1 : Int32) (c_24 : ¬ (0 ≤ p0)) (c_48 : ¬ (p1 = 0)) : (0, 1, 0, (fun _ => 0, 0, 0, 0, 0), (fun _ => 0, 0), (0, 0, 0, 0), 0, (0, 0, 0, 0)) = FX3_init p0 p1 := by
  exact ((if_neg c_24).trans (if_neg c_48)).symm
set_option maxHeartbeats 4000000 in
set_option maxRecDepth 100000 in
theorem mX3_init (l : Launch) (dC : Nat → ClassId) (dI : Nat → Nat → Nat) (om : Nat) (sz : Nat) (p0 : Int32) (p1 : Int32) : Met l yX3_init (Cond.code yX3_init cX3_init 3 none :: G) ({ frames := 1, cells := 2, slots := 5800, locals := 12 } : Room) (va_Pc [.ref om, .int p0, .int p1] (fun U => U.heap.size = sz ∧ va_P (dC, dI) vwCl [(om, .inr (3, [.int 0, .int 0, .int 0, .null, .int 0, .int 0, .int 0, .int 0, .null, .int 0, .int 0, .int 0, .int 0, .int 0, .int 0, .int 0, .int 0, .int 0, .int 0]))] U.heap ∧ va_K (dC, dI) vwCl [] U ∧ va_D (fun _ => True) [(om, .inr (3, [.int 0, .int 0, .int 0, .null, .int 0, .int 0, .int 0, .int 0, .null, .int 0, .int 0, .int 0, .int 0, .int 0, .int 0, .int 0, .int 0, .int 0, .int 0]))] ∧ zOk U)) (va_Qv (fun (u : Int32 × Int32 × Int32 × Bm × Rw × Tk × Int32 × Tk) => u = (FX3_init p0 p1)) (fun (u : Int32 × Int32 × Int32 × Bm × Rw × Tk × Int32 × Tk) (t : State) => ∃ (ob : Nat) (cZ : ClassId) (ok : Nat) (cK : ClassId), va_P (dC, dI) vwCl [(om, .inr (3, [.int u.2.2.1, .int u.1, .int u.2.1, .ref ob, .int u.2.2.2.1.2.1, .int u.2.2.2.1.2.2.1, .int u.2.2.2.1.2.2.2.1, .int u.2.2.2.1.2.2.2.2, .ref ok, .int u.2.2.2.2.1.2, .int u.2.2.2.2.2.1.1, .int u.2.2.2.2.2.1.2.1, .int u.2.2.2.2.2.1.2.2.1, .int u.2.2.2.2.2.1.2.2.2, .int u.2.2.2.2.2.2.1, .int u.2.2.2.2.2.2.2.1, .int u.2.2.2.2.2.2.2.2.1, .int u.2.2.2.2.2.2.2.2.2.1, .int u.2.2.2.2.2.2.2.2.2.2])), (ob, .inl (cZ, 5200, .inl u.2.2.2.1.1)), (ok, .inl (cK, 600, .inl u.2.2.2.2.1.1))] t.heap ∧ va_K (dC, dI) vwCl [(cZ, .boolean), (cK, .int)] t ∧ va_D (va_A [(om, .inr (3, [.int 0, .int 0, .int 0, .null, .int 0, .int 0, .int 0, .int 0, .null, .int 0, .int 0, .int 0, .int 0, .int 0, .int 0, .int 0, .int 0, .int 0, .int 0]))] sz) [(om, .inr (3, [.int u.2.2.1, .int u.1, .int u.2.1, .ref ob, .int u.2.2.2.1.2.1, .int u.2.2.2.1.2.2.1, .int u.2.2.2.1.2.2.2.1, .int u.2.2.2.1.2.2.2.2, .ref ok, .int u.2.2.2.2.1.2, .int u.2.2.2.2.2.1.1, .int u.2.2.2.2.2.1.2.1, .int u.2.2.2.2.2.1.2.2.1, .int u.2.2.2.2.2.1.2.2.2, .int u.2.2.2.2.2.2.1, .int u.2.2.2.2.2.2.2.1, .int u.2.2.2.2.2.2.2.2.1, .int u.2.2.2.2.2.2.2.2.2.1, .int u.2.2.2.2.2.2.2.2.2.2])), (ob, .inl (cZ, 5200, .inl u.2.2.2.1.1)), (ok, .inl (cK, 600, .inl u.2.2.2.2.1.1))]) (va_A [(om, .inr (3, [.int 0, .int 0, .int 0, .null, .int 0, .int 0, .int 0, .int 0, .null, .int 0, .int 0, .int 0, .int 0, .int 0, .int 0, .int 0, .int 0, .int 0, .int 0]))] sz)) 2 5800 (va_A [(om, .inr (3, [.int 0, .int 0, .int 0, .null, .int 0, .int 0, .int 0, .int 0, .null, .int 0, .int 0, .int 0, .int 0, .int 0, .int 0, .int 0, .int 0, .int 0, .int 0]))] sz) := by
  refine Met.ofW (cc := cX3_init) (maxL := 3) (ret := none) (by decide) rfl ?_
  intro p e s m args below meth c s₁ B hml hv
  obtain ⟨rfl, hsz, hP, hK, hD0, hZ⟩ := hv
  have hx := B.exec
  have hb := B.bytes
  have hr := B.returns
  have hts : ∀ w ∈ G, w.before [.ref om, .int p0, .int p1].toArray s = true := fun w h => atoms_spec (ws := (Cond.code yX3_init cX3_init 3 none :: G)) B.pre w (List.mem_cons_of_mem _ h)
  have hown : s.vm.findClass RX3 = some m.cls := findClass_of_methodNamed B.named
  have hlocks := B.notSynchronized
  have hin : meth.name = "<init>" := (name_of_methodNamed B.named B.method).1
  subst hsz
  have hD := hD0.self (sz := s.heap.size)
  generalize hAe : va_A [(om, .inr (3, [.int 0, .int 0, .int 0, .null, .int 0, .int 0, .int 0, .int 0, .null, .int 0, .int 0, .int 0, .int 0, .int 0, .int 0, .int 0, .int 0, .int 0, .int 0]))] s.heap.size = A at hD ⊢
  have hA : ∀ q : Nat, s.heap.size ≤ q → A q := fun q h => by rw [← hAe]; exact Or.inr h
  have hS : va_S A s.heap s.heap [] := va_S.rf
  have hP : va_P (dC, dI) vwCl [(om, .inr (3, [.int 0, .int 0, .int 0, .null, .int 0, .int 0, .int 0, .int 0, .null, .int 0, .int 0, .int 0, .int 0, .int 0, .int 0, .int 0, .int 0, .int 0, .int 0]))] s.heap := hP
  have hl := lv_entry ([.ref om, .int p0, .int p1]) (n := 3) (Nat.le_of_ble_eq_true rfl)
  rw [lg_entry_eq]
  generalize (lg_sl ([.ref om, .int p0, .int p1]) ++ List.replicate (3 - (lg_sl ([.ref om, .int p0, .int p1])).length) Slot.unset).toArray = ls at hl ⊢
  have hl : lv_has ls 3 [(0, .ref om), (1, .int p0), (2, .int p1)] := hl
  refine lv_aload_n hx hb dX3_init_0 rfl (lv_at hl 0 rfl) ?_
  refine W.objInit hx hb hown (hts _ wd436) (hts _ wd45) (hts _ wd46) rfl (by rw [hml]; exact hl.1) rfl dX3_init_1 (Nat.le_of_ble_eq_true rfl) (Nat.le_of_ble_eq_true rfl) ?_
  refine W.eq (g2 := F0 m 4 ls []) rfl ?_
  refine lv_aload_n hx hb dX3_init_4 rfl (lv_at hl 0 rfl) ?_
  refine lv_sipush (v := 5200) hx hb dX3_init_5 (by decide) ?_
  refine va_newa (atype := .boolean) (ty := .boolean) (a0 := (5200, .inl (fun _ => 0))) (N' := 5200) hx hb (hts _ wd495) rfl hK hP hD hS hA (fun _ => rfl) (by decide) (by decide) (by decide) (Nat.le_of_ble_eq_true rfl) (Nat.le_of_ble_eq_true rfl) dX3_init_8 (fun q8 cA8 H hK hP hD hS => ?_)
  have hP : va_P (dC, dI) vwCl [(om, .inr (3, [.int 0, .int 0, .int 0, .null, .int 0, .int 0, .int 0, .int 0, .null, .int 0, .int 0, .int 0, .int 0, .int 0, .int 0, .int 0, .int 0, .int 0, .int 0])), (q8, .inl (cA8, 5200, .inl (fun _ => 0)))] H := hP
  have hD : va_D A [(om, .inr (3, [.int 0, .int 0, .int 0, .null, .int 0, .int 0, .int 0, .int 0, .null, .int 0, .int 0, .int 0, .int 0, .int 0, .int 0, .int 0, .int 0, .int 0, .int 0])), (q8, .inl (cA8, 5200, .inl (fun _ => 0)))] := hD
  have hK : va_K (dC, dI) vwCl [(cA8, .boolean)] s := hK
  refine W.widen (k := 1) (n := 5200) (by omega) (by omega) ?_
  refine va_putF (D := (dC, dI)) (ci := 3) (v := .ref q8) (ty := .array .boolean) (C := RX3) (T := TX3) (N := 19) hx hb hts inGX3 tyX3 tyX3_ok nmX3 hown hK hP hD hS 0 rfl rfl 3 (by decide) (hts _ wd440) (fun _ h9 => h9) rfl hin rfl (by decide +kernel) rfl rfl (Nat.le_of_ble_eq_true rfl) dX3_init_10 (fun H locs hP hD hS => ?_)
  have hP : va_P (dC, dI) vwCl [(om, .inr (3, [.int 0, .int 0, .int 0, .ref q8, .int 0, .int 0, .int 0, .int 0, .null, .int 0, .int 0, .int 0, .int 0, .int 0, .int 0, .int 0, .int 0, .int 0, .int 0])), (q8, .inl (cA8, 5200, .inl (fun _ => 0)))] H := hP
  have hD : va_D A [(om, .inr (3, [.int 0, .int 0, .int 0, .ref q8, .int 0, .int 0, .int 0, .int 0, .null, .int 0, .int 0, .int 0, .int 0, .int 0, .int 0, .int 0, .int 0, .int 0, .int 0])), (q8, .inl (cA8, 5200, .inl (fun _ => 0)))] := hD
  refine lv_aload_n hx hb dX3_init_13 rfl (lv_at hl 0 rfl) ?_
  refine lv_sipush (v := 600) hx hb dX3_init_14 (by decide) ?_
  refine va_newa (atype := .int) (ty := .int) (a0 := (600, .inl (fun _ => 0))) (N' := 600) hx hb (hts _ wd69) rfl hK hP hD hS hA (fun _ => rfl) (by decide) (by decide) (by decide) (Nat.le_of_ble_eq_true rfl) (Nat.le_of_ble_eq_true rfl) dX3_init_17 (fun q17 cA17 H hK hP hD hS => ?_)
  have hP : va_P (dC, dI) vwCl [(om, .inr (3, [.int 0, .int 0, .int 0, .ref q8, .int 0, .int 0, .int 0, .int 0, .null, .int 0, .int 0, .int 0, .int 0, .int 0, .int 0, .int 0, .int 0, .int 0, .int 0])), (q8, .inl (cA8, 5200, .inl (fun _ => 0))), (q17, .inl (cA17, 600, .inl (fun _ => 0)))] H := hP
  have hD : va_D A [(om, .inr (3, [.int 0, .int 0, .int 0, .ref q8, .int 0, .int 0, .int 0, .int 0, .null, .int 0, .int 0, .int 0, .int 0, .int 0, .int 0, .int 0, .int 0, .int 0, .int 0])), (q8, .inl (cA8, 5200, .inl (fun _ => 0))), (q17, .inl (cA17, 600, .inl (fun _ => 0)))] := hD
  have hK : va_K (dC, dI) vwCl [(cA8, .boolean), (cA17, .int)] s := hK
  refine W.widen (k := 2) (n := 5800) (by omega) (by omega) ?_
  refine va_putF (D := (dC, dI)) (ci := 3) (v := .ref q17) (ty := .array .int) (C := RX3) (T := TX3) (N := 19) hx hb hts inGX3 tyX3 tyX3_ok nmX3 hown hK hP hD hS 0 rfl rfl 8 (by decide) (hts _ wd445) (fun _ h9 => h9) rfl hin rfl (by decide +kernel) rfl rfl (Nat.le_of_ble_eq_true rfl) dX3_init_19 (fun H locs hP hD hS => ?_)
  have hP : va_P (dC, dI) vwCl [(om, .inr (3, [.int 0, .int 0, .int 0, .ref q8, .int 0, .int 0, .int 0, .int 0, .ref q17, .int 0, .int 0, .int 0, .int 0, .int 0, .int 0, .int 0, .int 0, .int 0, .int 0])), (q8, .inl (cA8, 5200, .inl (fun _ => 0))), (q17, .inl (cA17, 600, .inl (fun _ => 0)))] H := hP
  have hD : va_D A [(om, .inr (3, [.int 0, .int 0, .int 0, .ref q8, .int 0, .int 0, .int 0, .int 0, .ref q17, .int 0, .int 0, .int 0, .int 0, .int 0, .int 0, .int 0, .int 0, .int 0, .int 0])), (q8, .inl (cA8, 5200, .inl (fun _ => 0))), (q17, .inl (cA17, 600, .inl (fun _ => 0)))] := hD
  refine lv_aload_n hx hb dX3_init_22 rfl (lv_at hl 0 rfl) ?_
  refine lv_iload_n hx hb dX3_init_23 rfl (lv_at hl 1 rfl) ?_
  refine lv_if_ge (tgt := 31) hx hb dX3_init_24 (by decide) (fun c_24 => ?_) (fun c_24 => ?_)
  · refine lv_iload_n hx hb dX3_init_31 rfl (lv_at hl 1 rfl) ?_
    refine lv_bipush (v := 16) hx hb dX3_init_32 (by decide) ?_
    refine lv_icmp_le (tgt := 42) hx hb dX3_init_34 (by decide) (fun c_34 => ?_) (fun c_34 => ?_)
    · refine lv_iload_n hx hb dX3_init_42 rfl (lv_at hl 1 rfl) ?_
      refine va_putF (D := (dC, dI)) (ci := 3) (v := .int p0) (ty := .int) (C := RX3) (T := TX3) (N := 19) hx hb hts inGX3 tyX3 tyX3_ok nmX3 hown hK hP hD hS 0 rfl rfl 1 (by decide) (hts _ wd438) (fun _ h9 => h9) rfl hin rfl (by decide +kernel) rfl rfl (Nat.le_of_ble_eq_true rfl) dX3_init_43 (fun H locs hP hD hS => ?_)
      have hP : va_P (dC, dI) vwCl [(om, .inr (3, [.int 0, .int p0, .int 0, .ref q8, .int 0, .int 0, .int 0, .int 0, .ref q17, .int 0, .int 0, .int 0, .int 0, .int 0, .int 0, .int 0, .int 0, .int 0, .int 0])), (q8, .inl (cA8, 5200, .inl (fun _ => 0))), (q17, .inl (cA17, 600, .inl (fun _ => 0)))] H := hP
      have hD : va_D A [(om, .inr (3, [.int 0, .int p0, .int 0, .ref q8, .int 0, .int 0, .int 0, .int 0, .ref q17, .int 0, .int 0, .int 0, .int 0, .int 0, .int 0, .int 0, .int 0, .int 0, .int 0])), (q8, .inl (cA8, 5200, .inl (fun _ => 0))), (q17, .inl (cA17, 600, .inl (fun _ => 0)))] := hD
      refine lv_aload_n hx hb dX3_init_46 rfl (lv_at hl 0 rfl) ?_
      refine lv_iload_n hx hb dX3_init_47 rfl (lv_at hl 2 rfl) ?_
      refine lv_if_eq (tgt := 55) hx hb dX3_init_48 (by decide) (fun c_48 => ?_) (fun c_48 => ?_)
      · refine lv_iconst (v := 0) hx hb dX3_init_55 (by decide) ?_
        refine va_putF (D := (dC, dI)) (ci := 3) (v := .int 0) (ty := .boolean) (C := RX3) (T := TX3) (N := 19) hx hb hts inGX3 tyX3 tyX3_ok nmX3 hown hK hP hD hS 0 rfl rfl 2 (by decide) (hts _ wd439) (fun _ h9 => h9) rfl hin rfl (by decide +kernel) rfl rfl (Nat.le_of_ble_eq_true rfl) dX3_init_56 (fun H locs hP hD hS => ?_)
        have hP : va_P (dC, dI) vwCl [(om, .inr (3, [.int 0, .int p0, .int 0, .ref q8, .int 0, .int 0, .int 0, .int 0, .ref q17, .int 0, .int 0, .int 0, .int 0, .int 0, .int 0, .int 0, .int 0, .int 0, .int 0])), (q8, .inl (cA8, 5200, .inl (fun _ => 0))), (q17, .inl (cA17, 600, .inl (fun _ => 0)))] H := hP
        have hD : va_D A [(om, .inr (3, [.int 0, .int p0, .int 0, .ref q8, .int 0, .int 0, .int 0, .int 0, .ref q17, .int 0, .int 0, .int 0, .int 0, .int 0, .int 0, .int 0, .int 0, .int 0, .int 0])), (q8, .inl (cA8, 5200, .inl (fun _ => 0))), (q17, .inl (cA17, 600, .inl (fun _ => 0)))] := hD
        have hP9 := hP.sub (ws' := [(om, .inr (3, [.int 0, .int p0, .int 0, .ref q8, .int 0, .int 0, .int 0, .int 0, .ref q17, .int 0, .int 0, .int 0, .int 0, .int 0, .int 0, .int 0, .int 0, .int 0, .int 0])), (q8, .inl (cA8, 5200, .inl (fun _ => 0))), (q17, .inl (cA17, 600, .inl (fun _ => 0)))]) [0, 1, 2] rfl
        have hD9 := hD.sub (ws' := [(om, .inr (3, [.int 0, .int p0, .int 0, .ref q8, .int 0, .int 0, .int 0, .int 0, .ref q17, .int 0, .int 0, .int 0, .int 0, .int 0, .int 0, .int 0, .int 0, .int 0, .int 0])), (q8, .inl (cA8, 5200, .inl (fun _ => 0))), (q17, .inl (cA17, 600, .inl (fun _ => 0)))]) [0, 1, 2] (by decide) rfl
        have hK9 := hK.sub (tys' := [(cA8, .boolean), (cA17, .int)]) [0, 1] rfl
        refine W.widen (k := 2) (n := 5800) (by omega) (by omega) ?_
        exact W.vret hx hb hr (fun t ht hW => ⟨⟨(p0, 0, 0, (fun _ => 0, 0, 0, 0, 0), (fun _ => 0, 0), (0, 0, 0, 0), 0, (0, 0, 0, 0)), rfl, (plX3_init_0 p0 p1 c_24 c_34 c_48), q8, cA8, q17, cA17, by rw [ht]; exact hP9, va_K.moved hW.alike hK9, hD9⟩, hS.F ht⟩) hS.2.2 dX3_init_59
      · refine lv_iconst (v := 1) hx hb dX3_init_51 (by decide) ?_
        refine lv_goto (tgt := 56) hx hb dX3_init_52 (by decide) ?_
        refine va_putF (D := (dC, dI)) (ci := 3) (v := .int 1) (ty := .boolean) (C := RX3) (T := TX3) (N := 19) hx hb hts inGX3 tyX3 tyX3_ok nmX3 hown hK hP hD hS 0 rfl rfl 2 (by decide) (hts _ wd439) (fun _ h9 => h9) rfl hin rfl (by decide +kernel) rfl rfl (Nat.le_of_ble_eq_true rfl) dX3_init_56 (fun H locs hP hD hS => ?_)
        have hP : va_P (dC, dI) vwCl [(om, .inr (3, [.int 0, .int p0, .int 1, .ref q8, .int 0, .int 0, .int 0, .int 0, .ref q17, .int 0, .int 0, .int 0, .int 0, .int 0, .int 0, .int 0, .int 0, .int 0, .int 0])), (q8, .inl (cA8, 5200, .inl (fun _ => 0))), (q17, .inl (cA17, 600, .inl (fun _ => 0)))] H := hP
        have hD : va_D A [(om, .inr (3, [.int 0, .int p0, .int 1, .ref q8, .int 0, .int 0, .int 0, .int 0, .ref q17, .int 0, .int 0, .int 0, .int 0, .int 0, .int 0, .int 0, .int 0, .int 0, .int 0])), (q8, .inl (cA8, 5200, .inl (fun _ => 0))), (q17, .inl (cA17, 600, .inl (fun _ => 0)))] := hD
        have hP9 := hP.sub (ws' := [(om, .inr (3, [.int 0, .int p0, .int 1, .ref q8, .int 0, .int 0, .int 0, .int 0, .ref q17, .int 0, .int 0, .int 0, .int 0, .int 0, .int 0, .int 0, .int 0, .int 0, .int 0])), (q8, .inl (cA8, 5200, .inl (fun _ => 0))), (q17, .inl (cA17, 600, .inl (fun _ => 0)))]) [0, 1, 2] rfl
        have hD9 := hD.sub (ws' := [(om, .inr (3, [.int 0, .int p0, .int 1, .ref q8, .int 0, .int 0, .int 0, .int 0, .ref q17, .int 0, .int 0, .int 0, .int 0, .int 0, .int 0, .int 0, .int 0, .int 0, .int 0])), (q8, .inl (cA8, 5200, .inl (fun _ => 0))), (q17, .inl (cA17, 600, .inl (fun _ => 0)))]) [0, 1, 2] (by decide) rfl
        have hK9 := hK.sub (tys' := [(cA8, .boolean), (cA17, .int)]) [0, 1] rfl
        refine W.widen (k := 2) (n := 5800) (by omega) (by omega) ?_
        exact W.vret hx hb hr (fun t ht hW => ⟨⟨(p0, 1, 0, (fun _ => 0, 0, 0, 0, 0), (fun _ => 0, 0), (0, 0, 0, 0), 0, (0, 0, 0, 0)), rfl, (plX3_init_1 p0 p1 c_24 c_34 c_48), q8, cA8, q17, cA17, by rw [ht]; exact hP9, va_K.moved hW.alike hK9, hD9⟩, hS.F ht⟩) hS.2.2 dX3_init_59
    · refine lv_bipush (v := 16) hx hb dX3_init_37 (by decide) ?_
      refine lv_goto (tgt := 43) hx hb dX3_init_39 (by decide) ?_
      refine va_putF (D := (dC, dI)) (ci := 3) (v := .int 16) (ty := .int) (C := RX3) (T := TX3) (N := 19) hx hb hts inGX3 tyX3 tyX3_ok nmX3 hown hK hP hD hS 0 rfl rfl 1 (by decide) (hts _ wd438) (fun _ h9 => h9) rfl hin rfl (by decide +kernel) rfl rfl (Nat.le_of_ble_eq_true rfl) dX3_init_43 (fun H locs hP hD hS => ?_)
      have hP : va_P (dC, dI) vwCl [(om, .inr (3, [.int 0, .int 16, .int 0, .ref q8, .int 0, .int 0, .int 0, .int 0, .ref q17, .int 0, .int 0, .int 0, .int 0, .int 0, .int 0, .int 0, .int 0, .int 0, .int 0])), (q8, .inl (cA8, 5200, .inl (fun _ => 0))), (q17, .inl (cA17, 600, .inl (fun _ => 0)))] H := hP
      have hD : va_D A [(om, .inr (3, [.int 0, .int 16, .int 0, .ref q8, .int 0, .int 0, .int 0, .int 0, .ref q17, .int 0, .int 0, .int 0, .int 0, .int 0, .int 0, .int 0, .int 0, .int 0, .int 0])), (q8, .inl (cA8, 5200, .inl (fun _ => 0))), (q17, .inl (cA17, 600, .inl (fun _ => 0)))] := hD
      refine lv_aload_n hx hb dX3_init_46 rfl (lv_at hl 0 rfl) ?_
      refine lv_iload_n hx hb dX3_init_47 rfl (lv_at hl 2 rfl) ?_
      refine lv_if_eq (tgt := 55) hx hb dX3_init_48 (by decide) (fun c_48 => ?_) (fun c_48 => ?_)
      · refine lv_iconst (v := 0) hx hb dX3_init_55 (by decide) ?_
        refine va_putF (D := (dC, dI)) (ci := 3) (v := .int 0) (ty := .boolean) (C := RX3) (T := TX3) (N := 19) hx hb hts inGX3 tyX3 tyX3_ok nmX3 hown hK hP hD hS 0 rfl rfl 2 (by decide) (hts _ wd439) (fun _ h9 => h9) rfl hin rfl (by decide +kernel) rfl rfl (Nat.le_of_ble_eq_true rfl) dX3_init_56 (fun H locs hP hD hS => ?_)
        have hP : va_P (dC, dI) vwCl [(om, .inr (3, [.int 0, .int 16, .int 0, .ref q8, .int 0, .int 0, .int 0, .int 0, .ref q17, .int 0, .int 0, .int 0, .int 0, .int 0, .int 0, .int 0, .int 0, .int 0, .int 0])), (q8, .inl (cA8, 5200, .inl (fun _ => 0))), (q17, .inl (cA17, 600, .inl (fun _ => 0)))] H := hP
        have hD : va_D A [(om, .inr (3, [.int 0, .int 16, .int 0, .ref q8, .int 0, .int 0, .int 0, .int 0, .ref q17, .int 0, .int 0, .int 0, .int 0, .int 0, .int 0, .int 0, .int 0, .int 0, .int 0])), (q8, .inl (cA8, 5200, .inl (fun _ => 0))), (q17, .inl (cA17, 600, .inl (fun _ => 0)))] := hD
        have hP9 := hP.sub (ws' := [(om, .inr (3, [.int 0, .int 16, .int 0, .ref q8, .int 0, .int 0, .int 0, .int 0, .ref q17, .int 0, .int 0, .int 0, .int 0, .int 0, .int 0, .int 0, .int 0, .int 0, .int 0])), (q8, .inl (cA8, 5200, .inl (fun _ => 0))), (q17, .inl (cA17, 600, .inl (fun _ => 0)))]) [0, 1, 2] rfl
        have hD9 := hD.sub (ws' := [(om, .inr (3, [.int 0, .int 16, .int 0, .ref q8, .int 0, .int 0, .int 0, .int 0, .ref q17, .int 0, .int 0, .int 0, .int 0, .int 0, .int 0, .int 0, .int 0, .int 0, .int 0])), (q8, .inl (cA8, 5200, .inl (fun _ => 0))), (q17, .inl (cA17, 600, .inl (fun _ => 0)))]) [0, 1, 2] (by decide) rfl
        have hK9 := hK.sub (tys' := [(cA8, .boolean), (cA17, .int)]) [0, 1] rfl
        refine W.widen (k := 2) (n := 5800) (by omega) (by omega) ?_
        exact W.vret hx hb hr (fun t ht hW => ⟨⟨(16, 0, 0, (fun _ => 0, 0, 0, 0, 0), (fun _ => 0, 0), (0, 0, 0, 0), 0, (0, 0, 0, 0)), rfl, (plX3_init_2 p0 p1 c_24 c_34 c_48), q8, cA8, q17, cA17, by rw [ht]; exact hP9, va_K.moved hW.alike hK9, hD9⟩, hS.F ht⟩) hS.2.2 dX3_init_59
      · refine lv_iconst (v := 1) hx hb dX3_init_51 (by decide) ?_
        refine lv_goto (tgt := 56) hx hb dX3_init_52 (by decide) ?_
        refine va_putF (D := (dC, dI)) (ci := 3) (v := .int 1) (ty := .boolean) (C := RX3) (T := TX3) (N := 19) hx hb hts inGX3 tyX3 tyX3_ok nmX3 hown hK hP hD hS 0 rfl rfl 2 (by decide) (hts _ wd439) (fun _ h9 => h9) rfl hin rfl (by decide +kernel) rfl rfl (Nat.le_of_ble_eq_true rfl) dX3_init_56 (fun H locs hP hD hS => ?_)
        have hP : va_P (dC, dI) vwCl [(om, .inr (3, [.int 0, .int 16, .int 1, .ref q8, .int 0, .int 0, .int 0, .int 0, .ref q17, .int 0, .int 0, .int 0, .int 0, .int 0, .int 0, .int 0, .int 0, .int 0, .int 0])), (q8, .inl (cA8, 5200, .inl (fun _ => 0))), (q17, .inl (cA17, 600, .inl (fun _ => 0)))] H := hP
        have hD : va_D A [(om, .inr (3, [.int 0, .int 16, .int 1, .ref q8, .int 0, .int 0, .int 0, .int 0, .ref q17, .int 0, .int 0, .int 0, .int 0, .int 0, .int 0, .int 0, .int 0, .int 0, .int 0])), (q8, .inl (cA8, 5200, .inl (fun _ => 0))), (q17, .inl (cA17, 600, .inl (fun _ => 0)))] := hD
        have hP9 := hP.sub (ws' := [(om, .inr (3, [.int 0, .int 16, .int 1, .ref q8, .int 0, .int 0, .int 0, .int 0, .ref q17, .int 0, .int 0, .int 0, .int 0, .int 0, .int 0, .int 0, .int 0, .int 0, .int 0])), (q8, .inl (cA8, 5200, .inl (fun _ => 0))), (q17, .inl (cA17, 600, .inl (fun _ => 0)))]) [0, 1, 2] rfl
        have hD9 := hD.sub (ws' := [(om, .inr (3, [.int 0, .int 16, .int 1, .ref q8, .int 0, .int 0, .int 0, .int 0, .ref q17, .int 0, .int 0, .int 0, .int 0, .int 0, .int 0, .int 0, .int 0, .int 0, .int 0])), (q8, .inl (cA8, 5200, .inl (fun _ => 0))), (q17, .inl (cA17, 600, .inl (fun _ => 0)))]) [0, 1, 2] (by decide) rfl
        have hK9 := hK.sub (tys' := [(cA8, .boolean), (cA17, .int)]) [0, 1] rfl
        refine W.widen (k := 2) (n := 5800) (by omega) (by omega) ?_
        exact W.vret hx hb hr (fun t ht hW => ⟨⟨(16, 1, 0, (fun _ => 0, 0, 0, 0, 0), (fun _ => 0, 0), (0, 0, 0, 0), 0, (0, 0, 0, 0)), rfl, (plX3_init_3 p0 p1 c_24 c_34 c_48), q8, cA8, q17, cA17, by rw [ht]; exact hP9, va_K.moved hW.alike hK9, hD9⟩, hS.F ht⟩) hS.2.2 dX3_init_59
  · refine lv_iconst (v := 0) hx hb dX3_init_27 (by decide) ?_
    refine lv_goto (tgt := 43) hx hb dX3_init_28 (by decide) ?_
    refine va_putF (D := (dC, dI)) (ci := 3) (v := .int 0) (ty := .int) (C := RX3) (T := TX3) (N := 19) hx hb hts inGX3 tyX3 tyX3_ok nmX3 hown hK hP hD hS 0 rfl rfl 1 (by decide) (hts _ wd438) (fun _ h9 => h9) rfl hin rfl (by decide +kernel) rfl rfl (Nat.le_of_ble_eq_true rfl) dX3_init_43 (fun H locs hP hD hS => ?_)
    have hP : va_P (dC, dI) vwCl [(om, .inr (3, [.int 0, .int 0, .int 0, .ref q8, .int 0, .int 0, .int 0, .int 0, .ref q17, .int 0, .int 0, .int 0, .int 0, .int 0, .int 0, .int 0, .int 0, .int 0, .int 0])), (q8, .inl (cA8, 5200, .inl (fun _ => 0))), (q17, .inl (cA17, 600, .inl (fun _ => 0)))] H := hP
    have hD : va_D A [(om, .inr (3, [.int 0, .int 0, .int 0, .ref q8, .int 0, .int 0, .int 0, .int 0, .ref q17, .int 0, .int 0, .int 0, .int 0, .int 0, .int 0, .int 0, .int 0, .int 0, .int 0])), (q8, .inl (cA8, 5200, .inl (fun _ => 0))), (q17, .inl (cA17, 600, .inl (fun _ => 0)))] := hD
    refine lv_aload_n hx hb dX3_init_46 rfl (lv_at hl 0 rfl) ?_
    refine lv_iload_n hx hb dX3_init_47 rfl (lv_at hl 2 rfl) ?_
    refine lv_if_eq (tgt := 55) hx hb dX3_init_48 (by decide) (fun c_48 => ?_) (fun c_48 => ?_)
    · refine lv_iconst (v := 0) hx hb dX3_init_55 (by decide) ?_
      refine va_putF (D := (dC, dI)) (ci := 3) (v := .int 0) (ty := .boolean) (C := RX3) (T := TX3) (N := 19) hx hb hts inGX3 tyX3 tyX3_ok nmX3 hown hK hP hD hS 0 rfl rfl 2 (by decide) (hts _ wd439) (fun _ h9 => h9) rfl hin rfl (by decide +kernel) rfl rfl (Nat.le_of_ble_eq_true rfl) dX3_init_56 (fun H locs hP hD hS => ?_)
      have hP : va_P (dC, dI) vwCl [(om, .inr (3, [.int 0, .int 0, .int 0, .ref q8, .int 0, .int 0, .int 0, .int 0, .ref q17, .int 0, .int 0, .int 0, .int 0, .int 0, .int 0, .int 0, .int 0, .int 0, .int 0])), (q8, .inl (cA8, 5200, .inl (fun _ => 0))), (q17, .inl (cA17, 600, .inl (fun _ => 0)))] H := hP
      have hD : va_D A [(om, .inr (3, [.int 0, .int 0, .int 0, .ref q8, .int 0, .int 0, .int 0, .int 0, .ref q17, .int 0, .int 0, .int 0, .int 0, .int 0, .int 0, .int 0, .int 0, .int 0, .int 0])), (q8, .inl (cA8, 5200, .inl (fun _ => 0))), (q17, .inl (cA17, 600, .inl (fun _ => 0)))] := hD
      have hP9 := hP.sub (ws' := [(om, .inr (3, [.int 0, .int 0, .int 0, .ref q8, .int 0, .int 0, .int 0, .int 0, .ref q17, .int 0, .int 0, .int 0, .int 0, .int 0, .int 0, .int 0, .int 0, .int 0, .int 0])), (q8, .inl (cA8, 5200, .inl (fun _ => 0))), (q17, .inl (cA17, 600, .inl (fun _ => 0)))]) [0, 1, 2] rfl
      have hD9 := hD.sub (ws' := [(om, .inr (3, [.int 0, .int 0, .int 0, .ref q8, .int 0, .int 0, .int 0, .int 0, .ref q17, .int 0, .int 0, .int 0, .int 0, .int 0, .int 0, .int 0, .int 0, .int 0, .int 0])), (q8, .inl (cA8, 5200, .inl (fun _ => 0))), (q17, .inl (cA17, 600, .inl (fun _ => 0)))]) [0, 1, 2] (by decide) rfl
      have hK9 := hK.sub (tys' := [(cA8, .boolean), (cA17, .int)]) [0, 1] rfl
      refine W.widen (k := 2) (n := 5800) (by omega) (by omega) ?_
      exact W.vret hx hb hr (fun t ht hW => ⟨⟨(0, 0, 0, (fun _ => 0, 0, 0, 0, 0), (fun _ => 0, 0), (0, 0, 0, 0), 0, (0, 0, 0, 0)), rfl, (plX3_init_4 p0 p1 c_24 c_48), q8, cA8, q17, cA17, by rw [ht]; exact hP9, va_K.moved hW.alike hK9, hD9⟩, hS.F ht⟩) hS.2.2 dX3_init_59
    · refine lv_iconst (v := 1) hx hb dX3_init_51 (by decide) ?_
      refine lv_goto (tgt := 56) hx hb dX3_init_52 (by decide) ?_
      refine va_putF (D := (dC, dI)) (ci := 3) (v := .int 1) (ty := .boolean) (C := RX3) (T := TX3) (N := 19) hx hb hts inGX3 tyX3 tyX3_ok nmX3 hown hK hP hD hS 0 rfl rfl 2 (by decide) (hts _ wd439) (fun _ h9 => h9) rfl hin rfl (by decide +kernel) rfl rfl (Nat.le_of_ble_eq_true rfl) dX3_init_56 (fun H locs hP hD hS => ?_)
      have hP : va_P (dC, dI) vwCl [(om, .inr (3, [.int 0, .int 0, .int 1, .ref q8, .int 0, .int 0, .int 0, .int 0, .ref q17, .int 0, .int 0, .int 0, .int 0, .int 0, .int 0, .int 0, .int 0, .int 0, .int 0])), (q8, .inl (cA8, 5200, .inl (fun _ => 0))), (q17, .inl (cA17, 600, .inl (fun _ => 0)))] H := hP
      have hD : va_D A [(om, .inr (3, [.int 0, .int 0, .int 1, .ref q8, .int 0, .int 0, .int 0, .int 0, .ref q17, .int 0, .int 0, .int 0, .int 0, .int 0, .int 0, .int 0, .int 0, .int 0, .int 0])), (q8, .inl (cA8, 5200, .inl (fun _ => 0))), (q17, .inl (cA17, 600, .inl (fun _ => 0)))] := hD
      have hP9 := hP.sub (ws' := [(om, .inr (3, [.int 0, .int 0, .int 1, .ref q8, .int 0, .int 0, .int 0, .int 0, .ref q17, .int 0, .int 0, .int 0, .int 0, .int 0, .int 0, .int 0, .int 0, .int 0, .int 0])), (q8, .inl (cA8, 5200, .inl (fun _ => 0))), (q17, .inl (cA17, 600, .inl (fun _ => 0)))]) [0, 1, 2] rfl
      have hD9 := hD.sub (ws' := [(om, .inr (3, [.int 0, .int 0, .int 1, .ref q8, .int 0, .int 0, .int 0, .int 0, .ref q17, .int 0, .int 0, .int 0, .int 0, .int 0, .int 0, .int 0, .int 0, .int 0, .int 0])), (q8, .inl (cA8, 5200, .inl (fun _ => 0))), (q17, .inl (cA17, 600, .inl (fun _ => 0)))]) [0, 1, 2] (by decide) rfl
      have hK9 := hK.sub (tys' := [(cA8, .boolean), (cA17, .int)]) [0, 1] rfl
      refine W.widen (k := 2) (n := 5800) (by omega) (by omega) ?_
      exact W.vret hx hb hr (fun t ht hW => ⟨⟨(0, 1, 0, (fun _ => 0, 0, 0, 0, 0), (fun _ => 0, 0), (0, 0, 0, 0), 0, (0, 0, 0, 0)), rfl, (plX3_init_5 p0 p1 c_24 c_48), q8, cA8, q17, cA17, by rw [ht]; exact hP9, va_K.moved hW.alike hK9, hD9⟩, hS.F ht⟩) hS.2.2 dX3_init_59
def alC2 (st : Int32) (ym : Tk) : Prop := ¬ (ym.1 - ym.1 / 8 * 8 = 0) ∨ (st = 1 ∧ ¬ ym.2.2.2 = 0)
/-- the reference's loop over the rest of a byte ends: what it does in one turn is SX3_skip_20 -/
def skE (st lo : Int32) (f : Tk → Int32 → (Tk × Int32) ⊕ Unit) (km : Rw) : Nat → Tk → Int32 → Prop
  | 0, _, _ => False
  | n + 1, ym, nn => yOk km ym ∧ (alC2 st ym → tOk ym.1) ∧ ∀ y' n', Sum.inl (y', n') = f ym nn → skE st lo f km n y' n'
theorem sk_t {st lo th : Int32} {bm : Bm} {km : Rw} {qm : Tk} {bd : Int32} {ym : Tk} {u : Tk} (hY : yOk km ym) (hT : tOk ym.1) (e : u = FX3_goOn st lo th bm km qm bd ym) (c : ¬ (u.1 - u.1 / 8 * 8) = 0) : tOk u.1 := by
  have e1 : u.1.toInt = ym.1.toInt + 1 := t_1 hT (by rw [e, go_1])
  have h1 := hT.1; have h2 := hT.2
  have e2 := rem8 (x := u.1) (by omega)
  rw [eqI, e2, i0] at c
  exact ⟨by omega, by omega⟩
theorem sk_tT {st lo th : Int32} {bm : Bm} {km : Rw} {qm : Tk} {bd : Int32} {ym : Tk} {u : Tk} {a b : Int32} (hY : yOk km ym) (hT : tOk ym.1) (e : u = FX3_goOn st lo th bm km qm bd ym) (c : ¬ (u.1 - u.1 / 8 * 8) = 0) : tOk (u.1, a, b, u.2.2.2).1 := by
  have q := sk_t hY hT e c
  exact q
theorem sk_0 {st lo th : Int32} {bm : Bm} {km : Rw} {qm : Tk} {bd : Int32} {ym : Tk} {f : Tk → Int32 → (Tk × Int32) ⊕ Unit} {n : Nat} {x : Int32} {u : Tk} (h : skE st lo f km n (qm.1, qm.2.1, qm.2.2.1, qm.2.2.2) x) (e : u = FX3_beginTry st lo th bm km qm bd ym) : skE st lo f km n u x := by rw [e]; exact h
def SX3_skip_20 (st : Int32) (lo : Int32) (th : Int32) (bm : Bm) (km : Rw) (qm : Tk) (bd : Int32) (ym : Tk) (nn : Int32) : (Tk × Int32) ⊕ Unit :=
  if (ym.1 - ym.1 / 8 * 8) = 0 then
    if st = 1 then
      if ym.2.2.2 = 0 then
        if nn ≤ 0 then
          let u_64 := FX3_keepTry st lo th bm km qm bd ym
          Sum.inr ()
        else
          let u_66 := FX3_keepTry st lo th bm km qm bd (ym.1, ym.2.1, 0, ym.2.2.2)
          Sum.inr ()
      else
        if st = 1 then
          if ym.2.2.2 = 0 then
            let r_79 := FX3_bitAt st lo th bm km qm bd ym ym.1
            let u_82 := FX3_goOn st lo th bm km qm bd ym
            let i_83 := nn + 1
            if r_79 = 1 then
              let f_87 := u_82.2.2.1 + 1
              if st ≤ 1 then
                Sum.inl ((u_82.1, u_82.2.1, f_87, u_82.2.2.2), i_83)
              else
                if f_87 = st then
                  if (u_82.1 - u_82.1 / 8 * 8) = 0 then
                    Sum.inl ((u_82.1, u_82.2.1, f_87, u_82.2.2.2), i_83)
                  else
                    let f_88 := u_82.2.1 + 1
                    let u_90 := FX3_goOn st lo th bm km qm bd (u_82.1, f_88, f_87, u_82.2.2.2)
                    Sum.inl ((u_90.1, u_90.2.1, 0, u_90.2.2.2), i_83)
                else
                  Sum.inl ((u_82.1, u_82.2.1, f_87, u_82.2.2.2), i_83)
            else
              if st ≤ 1 then
                Sum.inl ((u_82.1, u_82.2.1, 0, u_82.2.2.2), i_83)
              else
                if 0 = st then
                  if (u_82.1 - u_82.1 / 8 * 8) = 0 then
                    Sum.inl ((u_82.1, u_82.2.1, 0, u_82.2.2.2), i_83)
                  else
                    let f_84 := u_82.2.1 + 1
                    let u_86 := FX3_goOn st lo th bm km qm bd (u_82.1, f_84, 0, u_82.2.2.2)
                    Sum.inl ((u_86.1, u_86.2.1, 0, u_86.2.2.2), i_83)
                else
                  Sum.inl ((u_82.1, u_82.2.1, 0, u_82.2.2.2), i_83)
          else
            if lo = 0 then
              if (ym.1 - ym.1 / 8 * 8) = 0 then
                let r_103 := FX3_bitAt st lo th bm km qm bd ym ym.1
                let u_106 := FX3_goOn st lo th bm km qm bd ym
                let f_107 := u_106.2.1 + 1
                Sum.inl ((u_106.1, f_107, u_106.2.2.1, u_106.2.2.2), nn)
              else
                let r_91 := FX3_bitAt st lo th bm km qm bd ym ym.1
                let u_94 := FX3_goOn st lo th bm km qm bd ym
                let i_95 := nn + 1
                if r_91 = 1 then
                  let f_99 := u_94.2.2.1 + 1
                  if st ≤ 1 then
                    Sum.inl ((u_94.1, u_94.2.1, f_99, u_94.2.2.2), i_95)
                  else
                    if f_99 = st then
                      if (u_94.1 - u_94.1 / 8 * 8) = 0 then
                        Sum.inl ((u_94.1, u_94.2.1, f_99, u_94.2.2.2), i_95)
                      else
                        let f_100 := u_94.2.1 + 1
                        let u_102 := FX3_goOn st lo th bm km qm bd (u_94.1, f_100, f_99, u_94.2.2.2)
                        Sum.inl ((u_102.1, u_102.2.1, 0, u_102.2.2.2), i_95)
                    else
                      Sum.inl ((u_94.1, u_94.2.1, f_99, u_94.2.2.2), i_95)
                else
                  if st ≤ 1 then
                    Sum.inl ((u_94.1, u_94.2.1, 0, u_94.2.2.2), i_95)
                  else
                    if 0 = st then
                      if (u_94.1 - u_94.1 / 8 * 8) = 0 then
                        Sum.inl ((u_94.1, u_94.2.1, 0, u_94.2.2.2), i_95)
                      else
                        let f_96 := u_94.2.1 + 1
                        let u_98 := FX3_goOn st lo th bm km qm bd (u_94.1, f_96, 0, u_94.2.2.2)
                        Sum.inl ((u_98.1, u_98.2.1, 0, u_98.2.2.2), i_95)
                    else
                      Sum.inl ((u_94.1, u_94.2.1, 0, u_94.2.2.2), i_95)
            else
              if (ym.1 - ym.1 / 8 * 8) = 7 then
                let r_120 := FX3_bitAt st lo th bm km qm bd ym ym.1
                let u_123 := FX3_goOn st lo th bm km qm bd ym
                let f_124 := u_123.2.1 + 1
                Sum.inl ((u_123.1, f_124, u_123.2.2.1, u_123.2.2.2), nn)
              else
                let r_108 := FX3_bitAt st lo th bm km qm bd ym ym.1
                let u_111 := FX3_goOn st lo th bm km qm bd ym
                let i_112 := nn + 1
                if r_108 = 1 then
                  let f_116 := u_111.2.2.1 + 1
                  if st ≤ 1 then
                    Sum.inl ((u_111.1, u_111.2.1, f_116, u_111.2.2.2), i_112)
                  else
                    if f_116 = st then
                      if (u_111.1 - u_111.1 / 8 * 8) = 0 then
                        Sum.inl ((u_111.1, u_111.2.1, f_116, u_111.2.2.2), i_112)
                      else
                        let f_117 := u_111.2.1 + 1
                        let u_119 := FX3_goOn st lo th bm km qm bd (u_111.1, f_117, f_116, u_111.2.2.2)
                        Sum.inl ((u_119.1, u_119.2.1, 0, u_119.2.2.2), i_112)
                    else
                      Sum.inl ((u_111.1, u_111.2.1, f_116, u_111.2.2.2), i_112)
                else
                  if st ≤ 1 then
                    Sum.inl ((u_111.1, u_111.2.1, 0, u_111.2.2.2), i_112)
                  else
                    if 0 = st then
                      if (u_111.1 - u_111.1 / 8 * 8) = 0 then
                        Sum.inl ((u_111.1, u_111.2.1, 0, u_111.2.2.2), i_112)
                      else
                        let f_113 := u_111.2.1 + 1
                        let u_115 := FX3_goOn st lo th bm km qm bd (u_111.1, f_113, 0, u_111.2.2.2)
                        Sum.inl ((u_115.1, u_115.2.1, 0, u_115.2.2.2), i_112)
                    else
                      Sum.inl ((u_111.1, u_111.2.1, 0, u_111.2.2.2), i_112)
        else
          let r_67 := FX3_bitAt st lo th bm km qm bd ym ym.1
          let u_70 := FX3_goOn st lo th bm km qm bd ym
          let i_71 := nn + 1
          if r_67 = 1 then
            let f_75 := u_70.2.2.1 + 1
            if st ≤ 1 then
              Sum.inl ((u_70.1, u_70.2.1, f_75, u_70.2.2.2), i_71)
            else
              if f_75 = st then
                if (u_70.1 - u_70.1 / 8 * 8) = 0 then
                  Sum.inl ((u_70.1, u_70.2.1, f_75, u_70.2.2.2), i_71)
                else
                  let f_76 := u_70.2.1 + 1
                  let u_78 := FX3_goOn st lo th bm km qm bd (u_70.1, f_76, f_75, u_70.2.2.2)
                  Sum.inl ((u_78.1, u_78.2.1, 0, u_78.2.2.2), i_71)
              else
                Sum.inl ((u_70.1, u_70.2.1, f_75, u_70.2.2.2), i_71)
          else
            if st ≤ 1 then
              Sum.inl ((u_70.1, u_70.2.1, 0, u_70.2.2.2), i_71)
            else
              if 0 = st then
                if (u_70.1 - u_70.1 / 8 * 8) = 0 then
                  Sum.inl ((u_70.1, u_70.2.1, 0, u_70.2.2.2), i_71)
                else
                  let f_72 := u_70.2.1 + 1
                  let u_74 := FX3_goOn st lo th bm km qm bd (u_70.1, f_72, 0, u_70.2.2.2)
                  Sum.inl ((u_74.1, u_74.2.1, 0, u_74.2.2.2), i_71)
              else
                Sum.inl ((u_70.1, u_70.2.1, 0, u_70.2.2.2), i_71)
    else
      if nn ≤ 0 then
        let u_60 := FX3_keepTry st lo th bm km qm bd ym
        Sum.inr ()
      else
        let u_62 := FX3_keepTry st lo th bm km qm bd (ym.1, ym.2.1, 0, ym.2.2.2)
        Sum.inr ()
  else
    if st = 1 then
      if ym.2.2.2 = 0 then
        let r_13 := FX3_bitAt st lo th bm km qm bd ym ym.1
        let u_16 := FX3_goOn st lo th bm km qm bd ym
        let i_17 := nn + 1
        if r_13 = 1 then
          let f_21 := u_16.2.2.1 + 1
          if st ≤ 1 then
            Sum.inl ((u_16.1, u_16.2.1, f_21, u_16.2.2.2), i_17)
          else
            if f_21 = st then
              if (u_16.1 - u_16.1 / 8 * 8) = 0 then
                Sum.inl ((u_16.1, u_16.2.1, f_21, u_16.2.2.2), i_17)
              else
                let f_22 := u_16.2.1 + 1
                let u_24 := FX3_goOn st lo th bm km qm bd (u_16.1, f_22, f_21, u_16.2.2.2)
                Sum.inl ((u_24.1, u_24.2.1, 0, u_24.2.2.2), i_17)
            else
              Sum.inl ((u_16.1, u_16.2.1, f_21, u_16.2.2.2), i_17)
        else
          if st ≤ 1 then
            Sum.inl ((u_16.1, u_16.2.1, 0, u_16.2.2.2), i_17)
          else
            if 0 = st then
              if (u_16.1 - u_16.1 / 8 * 8) = 0 then
                Sum.inl ((u_16.1, u_16.2.1, 0, u_16.2.2.2), i_17)
              else
                let f_18 := u_16.2.1 + 1
                let u_20 := FX3_goOn st lo th bm km qm bd (u_16.1, f_18, 0, u_16.2.2.2)
                Sum.inl ((u_20.1, u_20.2.1, 0, u_20.2.2.2), i_17)
            else
              Sum.inl ((u_16.1, u_16.2.1, 0, u_16.2.2.2), i_17)
      else
        if lo = 0 then
          if (ym.1 - ym.1 / 8 * 8) = 0 then
            let r_37 := FX3_bitAt st lo th bm km qm bd ym ym.1
            let u_40 := FX3_goOn st lo th bm km qm bd ym
            let f_41 := u_40.2.1 + 1
            Sum.inl ((u_40.1, f_41, u_40.2.2.1, u_40.2.2.2), nn)
          else
            let r_25 := FX3_bitAt st lo th bm km qm bd ym ym.1
            let u_28 := FX3_goOn st lo th bm km qm bd ym
            let i_29 := nn + 1
            if r_25 = 1 then
              let f_33 := u_28.2.2.1 + 1
              if st ≤ 1 then
                Sum.inl ((u_28.1, u_28.2.1, f_33, u_28.2.2.2), i_29)
              else
                if f_33 = st then
                  if (u_28.1 - u_28.1 / 8 * 8) = 0 then
                    Sum.inl ((u_28.1, u_28.2.1, f_33, u_28.2.2.2), i_29)
                  else
                    let f_34 := u_28.2.1 + 1
                    let u_36 := FX3_goOn st lo th bm km qm bd (u_28.1, f_34, f_33, u_28.2.2.2)
                    Sum.inl ((u_36.1, u_36.2.1, 0, u_36.2.2.2), i_29)
                else
                  Sum.inl ((u_28.1, u_28.2.1, f_33, u_28.2.2.2), i_29)
            else
              if st ≤ 1 then
                Sum.inl ((u_28.1, u_28.2.1, 0, u_28.2.2.2), i_29)
              else
                if 0 = st then
                  if (u_28.1 - u_28.1 / 8 * 8) = 0 then
                    Sum.inl ((u_28.1, u_28.2.1, 0, u_28.2.2.2), i_29)
                  else
                    let f_30 := u_28.2.1 + 1
                    let u_32 := FX3_goOn st lo th bm km qm bd (u_28.1, f_30, 0, u_28.2.2.2)
                    Sum.inl ((u_32.1, u_32.2.1, 0, u_32.2.2.2), i_29)
                else
                  Sum.inl ((u_28.1, u_28.2.1, 0, u_28.2.2.2), i_29)
        else
          if (ym.1 - ym.1 / 8 * 8) = 7 then
            let r_54 := FX3_bitAt st lo th bm km qm bd ym ym.1
            let u_57 := FX3_goOn st lo th bm km qm bd ym
            let f_58 := u_57.2.1 + 1
            Sum.inl ((u_57.1, f_58, u_57.2.2.1, u_57.2.2.2), nn)
          else
            let r_42 := FX3_bitAt st lo th bm km qm bd ym ym.1
            let u_45 := FX3_goOn st lo th bm km qm bd ym
            let i_46 := nn + 1
            if r_42 = 1 then
              let f_50 := u_45.2.2.1 + 1
              if st ≤ 1 then
                Sum.inl ((u_45.1, u_45.2.1, f_50, u_45.2.2.2), i_46)
              else
                if f_50 = st then
                  if (u_45.1 - u_45.1 / 8 * 8) = 0 then
                    Sum.inl ((u_45.1, u_45.2.1, f_50, u_45.2.2.2), i_46)
                  else
                    let f_51 := u_45.2.1 + 1
                    let u_53 := FX3_goOn st lo th bm km qm bd (u_45.1, f_51, f_50, u_45.2.2.2)
                    Sum.inl ((u_53.1, u_53.2.1, 0, u_53.2.2.2), i_46)
                else
                  Sum.inl ((u_45.1, u_45.2.1, f_50, u_45.2.2.2), i_46)
            else
              if st ≤ 1 then
                Sum.inl ((u_45.1, u_45.2.1, 0, u_45.2.2.2), i_46)
              else
                if 0 = st then
                  if (u_45.1 - u_45.1 / 8 * 8) = 0 then
                    Sum.inl ((u_45.1, u_45.2.1, 0, u_45.2.2.2), i_46)
                  else
                    let f_47 := u_45.2.1 + 1
                    let u_49 := FX3_goOn st lo th bm km qm bd (u_45.1, f_47, 0, u_45.2.2.2)
                    Sum.inl ((u_49.1, u_49.2.1, 0, u_49.2.2.2), i_46)
                else
                  Sum.inl ((u_45.1, u_45.2.1, 0, u_45.2.2.2), i_46)
    else
      let r_1 := FX3_bitAt st lo th bm km qm bd ym ym.1
      let u_4 := FX3_goOn st lo th bm km qm bd ym
      let i_5 := nn + 1
      if r_1 = 1 then
        let f_9 := u_4.2.2.1 + 1
        if st ≤ 1 then
          Sum.inl ((u_4.1, u_4.2.1, f_9, u_4.2.2.2), i_5)
        else
          if f_9 = st then
            if (u_4.1 - u_4.1 / 8 * 8) = 0 then
              Sum.inl ((u_4.1, u_4.2.1, f_9, u_4.2.2.2), i_5)
            else
              let f_10 := u_4.2.1 + 1
              let u_12 := FX3_goOn st lo th bm km qm bd (u_4.1, f_10, f_9, u_4.2.2.2)
              Sum.inl ((u_12.1, u_12.2.1, 0, u_12.2.2.2), i_5)
          else
            Sum.inl ((u_4.1, u_4.2.1, f_9, u_4.2.2.2), i_5)
      else
        if st ≤ 1 then
          Sum.inl ((u_4.1, u_4.2.1, 0, u_4.2.2.2), i_5)
        else
          if 0 = st then
            if (u_4.1 - u_4.1 / 8 * 8) = 0 then
              Sum.inl ((u_4.1, u_4.2.1, 0, u_4.2.2.2), i_5)
            else
              let f_6 := u_4.2.1 + 1
              let u_8 := FX3_goOn st lo th bm km qm bd (u_4.1, f_6, 0, u_4.2.2.2)
              Sum.inl ((u_8.1, u_8.2.1, 0, u_8.2.2.2), i_5)
          else
            Sum.inl ((u_4.1, u_4.2.1, 0, u_4.2.2.2), i_5)
def LX3_skip_20 (st : Int32) (lo : Int32) : Nat → Int32 → Bm → Rw → Tk → Int32 → Tk → Int32 → Int32 × Int32 × Tk × Tk
  | 0, th, bm, km, qm, bd, ym, nn => (0, th, qm, ym)
  | n + 1, th, bm, km, qm, bd, ym, nn =>
    if (ym.1 - ym.1 / 8 * 8) = 0 then
      if st = 1 then
        if ym.2.2.2 = 0 then
          if nn ≤ 0 then
            let u_64 := FX3_keepTry st lo th bm km qm bd ym
            (nn, th, u_64, ym)
          else
            let u_66 := FX3_keepTry st lo th bm km qm bd (ym.1, ym.2.1, 0, ym.2.2.2)
            (nn, th, u_66, (ym.1, ym.2.1, 0, ym.2.2.2))
        else
          if st = 1 then
            if ym.2.2.2 = 0 then
              let r_79 := FX3_bitAt st lo th bm km qm bd ym ym.1
              let u_82 := FX3_goOn st lo th bm km qm bd ym
              let i_83 := nn + 1
              if r_79 = 1 then
                let f_87 := u_82.2.2.1 + 1
                if st ≤ 1 then
                  LX3_skip_20 st lo n th bm km qm bd (u_82.1, u_82.2.1, f_87, u_82.2.2.2) i_83
                else
                  if f_87 = st then
                    if (u_82.1 - u_82.1 / 8 * 8) = 0 then
                      LX3_skip_20 st lo n th bm km qm bd (u_82.1, u_82.2.1, f_87, u_82.2.2.2) i_83
                    else
                      let f_88 := u_82.2.1 + 1
                      let u_90 := FX3_goOn st lo th bm km qm bd (u_82.1, f_88, f_87, u_82.2.2.2)
                      LX3_skip_20 st lo n th bm km qm bd (u_90.1, u_90.2.1, 0, u_90.2.2.2) i_83
                  else
                    LX3_skip_20 st lo n th bm km qm bd (u_82.1, u_82.2.1, f_87, u_82.2.2.2) i_83
              else
                if st ≤ 1 then
                  LX3_skip_20 st lo n th bm km qm bd (u_82.1, u_82.2.1, 0, u_82.2.2.2) i_83
                else
                  if 0 = st then
                    if (u_82.1 - u_82.1 / 8 * 8) = 0 then
                      LX3_skip_20 st lo n th bm km qm bd (u_82.1, u_82.2.1, 0, u_82.2.2.2) i_83
                    else
                      let f_84 := u_82.2.1 + 1
                      let u_86 := FX3_goOn st lo th bm km qm bd (u_82.1, f_84, 0, u_82.2.2.2)
                      LX3_skip_20 st lo n th bm km qm bd (u_86.1, u_86.2.1, 0, u_86.2.2.2) i_83
                  else
                    LX3_skip_20 st lo n th bm km qm bd (u_82.1, u_82.2.1, 0, u_82.2.2.2) i_83
            else
              if lo = 0 then
                if (ym.1 - ym.1 / 8 * 8) = 0 then
                  let r_103 := FX3_bitAt st lo th bm km qm bd ym ym.1
                  let u_106 := FX3_goOn st lo th bm km qm bd ym
                  let f_107 := u_106.2.1 + 1
                  LX3_skip_20 st lo n th bm km qm bd (u_106.1, f_107, u_106.2.2.1, u_106.2.2.2) nn
                else
                  let r_91 := FX3_bitAt st lo th bm km qm bd ym ym.1
                  let u_94 := FX3_goOn st lo th bm km qm bd ym
                  let i_95 := nn + 1
                  if r_91 = 1 then
                    let f_99 := u_94.2.2.1 + 1
                    if st ≤ 1 then
                      LX3_skip_20 st lo n th bm km qm bd (u_94.1, u_94.2.1, f_99, u_94.2.2.2) i_95
                    else
                      if f_99 = st then
                        if (u_94.1 - u_94.1 / 8 * 8) = 0 then
                          LX3_skip_20 st lo n th bm km qm bd (u_94.1, u_94.2.1, f_99, u_94.2.2.2) i_95
                        else
                          let f_100 := u_94.2.1 + 1
                          let u_102 := FX3_goOn st lo th bm km qm bd (u_94.1, f_100, f_99, u_94.2.2.2)
                          LX3_skip_20 st lo n th bm km qm bd (u_102.1, u_102.2.1, 0, u_102.2.2.2) i_95
                      else
                        LX3_skip_20 st lo n th bm km qm bd (u_94.1, u_94.2.1, f_99, u_94.2.2.2) i_95
                  else
                    if st ≤ 1 then
                      LX3_skip_20 st lo n th bm km qm bd (u_94.1, u_94.2.1, 0, u_94.2.2.2) i_95
                    else
                      if 0 = st then
                        if (u_94.1 - u_94.1 / 8 * 8) = 0 then
                          LX3_skip_20 st lo n th bm km qm bd (u_94.1, u_94.2.1, 0, u_94.2.2.2) i_95
                        else
                          let f_96 := u_94.2.1 + 1
                          let u_98 := FX3_goOn st lo th bm km qm bd (u_94.1, f_96, 0, u_94.2.2.2)
                          LX3_skip_20 st lo n th bm km qm bd (u_98.1, u_98.2.1, 0, u_98.2.2.2) i_95
                      else
                        LX3_skip_20 st lo n th bm km qm bd (u_94.1, u_94.2.1, 0, u_94.2.2.2) i_95
              else
                if (ym.1 - ym.1 / 8 * 8) = 7 then
                  let r_120 := FX3_bitAt st lo th bm km qm bd ym ym.1
                  let u_123 := FX3_goOn st lo th bm km qm bd ym
                  let f_124 := u_123.2.1 + 1
                  LX3_skip_20 st lo n th bm km qm bd (u_123.1, f_124, u_123.2.2.1, u_123.2.2.2) nn
                else
                  let r_108 := FX3_bitAt st lo th bm km qm bd ym ym.1
                  let u_111 := FX3_goOn st lo th bm km qm bd ym
                  let i_112 := nn + 1
                  if r_108 = 1 then
                    let f_116 := u_111.2.2.1 + 1
                    if st ≤ 1 then
                      LX3_skip_20 st lo n th bm km qm bd (u_111.1, u_111.2.1, f_116, u_111.2.2.2) i_112
                    else
                      if f_116 = st then
                        if (u_111.1 - u_111.1 / 8 * 8) = 0 then
                          LX3_skip_20 st lo n th bm km qm bd (u_111.1, u_111.2.1, f_116, u_111.2.2.2) i_112
                        else
                          let f_117 := u_111.2.1 + 1
                          let u_119 := FX3_goOn st lo th bm km qm bd (u_111.1, f_117, f_116, u_111.2.2.2)
                          LX3_skip_20 st lo n th bm km qm bd (u_119.1, u_119.2.1, 0, u_119.2.2.2) i_112
                      else
                        LX3_skip_20 st lo n th bm km qm bd (u_111.1, u_111.2.1, f_116, u_111.2.2.2) i_112
                  else
                    if st ≤ 1 then
                      LX3_skip_20 st lo n th bm km qm bd (u_111.1, u_111.2.1, 0, u_111.2.2.2) i_112
                    else
                      if 0 = st then
                        if (u_111.1 - u_111.1 / 8 * 8) = 0 then
                          LX3_skip_20 st lo n th bm km qm bd (u_111.1, u_111.2.1, 0, u_111.2.2.2) i_112
                        else
                          let f_113 := u_111.2.1 + 1
                          let u_115 := FX3_goOn st lo th bm km qm bd (u_111.1, f_113, 0, u_111.2.2.2)
                          LX3_skip_20 st lo n th bm km qm bd (u_115.1, u_115.2.1, 0, u_115.2.2.2) i_112
                      else
                        LX3_skip_20 st lo n th bm km qm bd (u_111.1, u_111.2.1, 0, u_111.2.2.2) i_112
          else
            let r_67 := FX3_bitAt st lo th bm km qm bd ym ym.1
            let u_70 := FX3_goOn st lo th bm km qm bd ym
            let i_71 := nn + 1
            if r_67 = 1 then
              let f_75 := u_70.2.2.1 + 1
              if st ≤ 1 then
                LX3_skip_20 st lo n th bm km qm bd (u_70.1, u_70.2.1, f_75, u_70.2.2.2) i_71
              else
                if f_75 = st then
                  if (u_70.1 - u_70.1 / 8 * 8) = 0 then
                    LX3_skip_20 st lo n th bm km qm bd (u_70.1, u_70.2.1, f_75, u_70.2.2.2) i_71
                  else
                    let f_76 := u_70.2.1 + 1
                    let u_78 := FX3_goOn st lo th bm km qm bd (u_70.1, f_76, f_75, u_70.2.2.2)
                    LX3_skip_20 st lo n th bm km qm bd (u_78.1, u_78.2.1, 0, u_78.2.2.2) i_71
                else
                  LX3_skip_20 st lo n th bm km qm bd (u_70.1, u_70.2.1, f_75, u_70.2.2.2) i_71
            else
              if st ≤ 1 then
                LX3_skip_20 st lo n th bm km qm bd (u_70.1, u_70.2.1, 0, u_70.2.2.2) i_71
              else
                if 0 = st then
                  if (u_70.1 - u_70.1 / 8 * 8) = 0 then
                    LX3_skip_20 st lo n th bm km qm bd (u_70.1, u_70.2.1, 0, u_70.2.2.2) i_71
                  else
                    let f_72 := u_70.2.1 + 1
                    let u_74 := FX3_goOn st lo th bm km qm bd (u_70.1, f_72, 0, u_70.2.2.2)
                    LX3_skip_20 st lo n th bm km qm bd (u_74.1, u_74.2.1, 0, u_74.2.2.2) i_71
                else
                  LX3_skip_20 st lo n th bm km qm bd (u_70.1, u_70.2.1, 0, u_70.2.2.2) i_71
      else
        if nn ≤ 0 then
          let u_60 := FX3_keepTry st lo th bm km qm bd ym
          (nn, th, u_60, ym)
        else
          let u_62 := FX3_keepTry st lo th bm km qm bd (ym.1, ym.2.1, 0, ym.2.2.2)
          (nn, th, u_62, (ym.1, ym.2.1, 0, ym.2.2.2))
    else
      if st = 1 then
        if ym.2.2.2 = 0 then
          let r_13 := FX3_bitAt st lo th bm km qm bd ym ym.1
          let u_16 := FX3_goOn st lo th bm km qm bd ym
          let i_17 := nn + 1
          if r_13 = 1 then
            let f_21 := u_16.2.2.1 + 1
            if st ≤ 1 then
              LX3_skip_20 st lo n th bm km qm bd (u_16.1, u_16.2.1, f_21, u_16.2.2.2) i_17
            else
              if f_21 = st then
                if (u_16.1 - u_16.1 / 8 * 8) = 0 then
                  LX3_skip_20 st lo n th bm km qm bd (u_16.1, u_16.2.1, f_21, u_16.2.2.2) i_17
                else
                  let f_22 := u_16.2.1 + 1
                  let u_24 := FX3_goOn st lo th bm km qm bd (u_16.1, f_22, f_21, u_16.2.2.2)
                  LX3_skip_20 st lo n th bm km qm bd (u_24.1, u_24.2.1, 0, u_24.2.2.2) i_17
              else
                LX3_skip_20 st lo n th bm km qm bd (u_16.1, u_16.2.1, f_21, u_16.2.2.2) i_17
          else
            if st ≤ 1 then
              LX3_skip_20 st lo n th bm km qm bd (u_16.1, u_16.2.1, 0, u_16.2.2.2) i_17
            else
              if 0 = st then
                if (u_16.1 - u_16.1 / 8 * 8) = 0 then
                  LX3_skip_20 st lo n th bm km qm bd (u_16.1, u_16.2.1, 0, u_16.2.2.2) i_17
                else
                  let f_18 := u_16.2.1 + 1
                  let u_20 := FX3_goOn st lo th bm km qm bd (u_16.1, f_18, 0, u_16.2.2.2)
                  LX3_skip_20 st lo n th bm km qm bd (u_20.1, u_20.2.1, 0, u_20.2.2.2) i_17
              else
                LX3_skip_20 st lo n th bm km qm bd (u_16.1, u_16.2.1, 0, u_16.2.2.2) i_17
        else
          if lo = 0 then
            if (ym.1 - ym.1 / 8 * 8) = 0 then
              let r_37 := FX3_bitAt st lo th bm km qm bd ym ym.1
              let u_40 := FX3_goOn st lo th bm km qm bd ym
              let f_41 := u_40.2.1 + 1
              LX3_skip_20 st lo n th bm km qm bd (u_40.1, f_41, u_40.2.2.1, u_40.2.2.2) nn
            else
              let r_25 := FX3_bitAt st lo th bm km qm bd ym ym.1
              let u_28 := FX3_goOn st lo th bm km qm bd ym
              let i_29 := nn + 1
              if r_25 = 1 then
                let f_33 := u_28.2.2.1 + 1
                if st ≤ 1 then
                  LX3_skip_20 st lo n th bm km qm bd (u_28.1, u_28.2.1, f_33, u_28.2.2.2) i_29
                else
                  if f_33 = st then
                    if (u_28.1 - u_28.1 / 8 * 8) = 0 then
                      LX3_skip_20 st lo n th bm km qm bd (u_28.1, u_28.2.1, f_33, u_28.2.2.2) i_29
                    else
                      let f_34 := u_28.2.1 + 1
                      let u_36 := FX3_goOn st lo th bm km qm bd (u_28.1, f_34, f_33, u_28.2.2.2)
                      LX3_skip_20 st lo n th bm km qm bd (u_36.1, u_36.2.1, 0, u_36.2.2.2) i_29
                  else
                    LX3_skip_20 st lo n th bm km qm bd (u_28.1, u_28.2.1, f_33, u_28.2.2.2) i_29
              else
                if st ≤ 1 then
                  LX3_skip_20 st lo n th bm km qm bd (u_28.1, u_28.2.1, 0, u_28.2.2.2) i_29
                else
                  if 0 = st then
                    if (u_28.1 - u_28.1 / 8 * 8) = 0 then
                      LX3_skip_20 st lo n th bm km qm bd (u_28.1, u_28.2.1, 0, u_28.2.2.2) i_29
                    else
                      let f_30 := u_28.2.1 + 1
                      let u_32 := FX3_goOn st lo th bm km qm bd (u_28.1, f_30, 0, u_28.2.2.2)
                      LX3_skip_20 st lo n th bm km qm bd (u_32.1, u_32.2.1, 0, u_32.2.2.2) i_29
                  else
                    LX3_skip_20 st lo n th bm km qm bd (u_28.1, u_28.2.1, 0, u_28.2.2.2) i_29
          else
            if (ym.1 - ym.1 / 8 * 8) = 7 then
              let r_54 := FX3_bitAt st lo th bm km qm bd ym ym.1
              let u_57 := FX3_goOn st lo th bm km qm bd ym
              let f_58 := u_57.2.1 + 1
              LX3_skip_20 st lo n th bm km qm bd (u_57.1, f_58, u_57.2.2.1, u_57.2.2.2) nn
            else
              let r_42 := FX3_bitAt st lo th bm km qm bd ym ym.1
              let u_45 := FX3_goOn st lo th bm km qm bd ym
              let i_46 := nn + 1
              if r_42 = 1 then
                let f_50 := u_45.2.2.1 + 1
                if st ≤ 1 then
                  LX3_skip_20 st lo n th bm km qm bd (u_45.1, u_45.2.1, f_50, u_45.2.2.2) i_46
                else
                  if f_50 = st then
                    if (u_45.1 - u_45.1 / 8 * 8) = 0 then
                      LX3_skip_20 st lo n th bm km qm bd (u_45.1, u_45.2.1, f_50, u_45.2.2.2) i_46
                    else
                      let f_51 := u_45.2.1 + 1
                      let u_53 := FX3_goOn st lo th bm km qm bd (u_45.1, f_51, f_50, u_45.2.2.2)
                      LX3_skip_20 st lo n th bm km qm bd (u_53.1, u_53.2.1, 0, u_53.2.2.2) i_46
                  else
                    LX3_skip_20 st lo n th bm km qm bd (u_45.1, u_45.2.1, f_50, u_45.2.2.2) i_46
              else
                if st ≤ 1 then
                  LX3_skip_20 st lo n th bm km qm bd (u_45.1, u_45.2.1, 0, u_45.2.2.2) i_46
                else
                  if 0 = st then
                    if (u_45.1 - u_45.1 / 8 * 8) = 0 then
                      LX3_skip_20 st lo n th bm km qm bd (u_45.1, u_45.2.1, 0, u_45.2.2.2) i_46
                    else
                      let f_47 := u_45.2.1 + 1
                      let u_49 := FX3_goOn st lo th bm km qm bd (u_45.1, f_47, 0, u_45.2.2.2)
                      LX3_skip_20 st lo n th bm km qm bd (u_49.1, u_49.2.1, 0, u_49.2.2.2) i_46
                  else
                    LX3_skip_20 st lo n th bm km qm bd (u_45.1, u_45.2.1, 0, u_45.2.2.2) i_46
      else
        let r_1 := FX3_bitAt st lo th bm km qm bd ym ym.1
        let u_4 := FX3_goOn st lo th bm km qm bd ym
        let i_5 := nn + 1
        if r_1 = 1 then
          let f_9 := u_4.2.2.1 + 1
          if st ≤ 1 then
            LX3_skip_20 st lo n th bm km qm bd (u_4.1, u_4.2.1, f_9, u_4.2.2.2) i_5
          else
            if f_9 = st then
              if (u_4.1 - u_4.1 / 8 * 8) = 0 then
                LX3_skip_20 st lo n th bm km qm bd (u_4.1, u_4.2.1, f_9, u_4.2.2.2) i_5
              else
                let f_10 := u_4.2.1 + 1
                let u_12 := FX3_goOn st lo th bm km qm bd (u_4.1, f_10, f_9, u_4.2.2.2)
                LX3_skip_20 st lo n th bm km qm bd (u_12.1, u_12.2.1, 0, u_12.2.2.2) i_5
            else
              LX3_skip_20 st lo n th bm km qm bd (u_4.1, u_4.2.1, f_9, u_4.2.2.2) i_5
        else
          if st ≤ 1 then
            LX3_skip_20 st lo n th bm km qm bd (u_4.1, u_4.2.1, 0, u_4.2.2.2) i_5
          else
            if 0 = st then
              if (u_4.1 - u_4.1 / 8 * 8) = 0 then
                LX3_skip_20 st lo n th bm km qm bd (u_4.1, u_4.2.1, 0, u_4.2.2.2) i_5
              else
                let f_6 := u_4.2.1 + 1
                let u_8 := FX3_goOn st lo th bm km qm bd (u_4.1, f_6, 0, u_4.2.2.2)
                LX3_skip_20 st lo n th bm km qm bd (u_8.1, u_8.2.1, 0, u_8.2.2.2) i_5
            else
              LX3_skip_20 st lo n th bm km qm bd (u_4.1, u_4.2.1, 0, u_4.2.2.2) i_5
def FX3_skip (st : Int32) (lo : Int32) (th : Int32) (bm : Bm) (km : Rw) (qm : Tk) (bd : Int32) (ym : Tk) : Int32 × Int32 × Tk × Tk :=
  if bd = 0 then
    let u_2 := FX3_beginTry st lo 0 bm km qm bd ym
    LX3_skip_20 st lo 17 0 bm km qm bd u_2 0
  else
    (0, 0, qm, ym)
set_option maxRecDepth 100000 in
theorem plX3_skip_l20_0 (st : Int32) (lo : Int32) (n : Nat) (th : Int32) (bm : Bm) (km : Rw) (qm : Tk) (bd : Int32) (ym : Tk) (nn : Int32) (c_27 : ¬ ((ym.1 - ym.1 / 8 * 8) = 0)) (c_50 : ¬ (st = 1)) (r_1 : Int32) (hw_2 : r_1 = FX3_bitAt st lo th bm km qm bd ym ym.1) (u_4 : Tk) (hw_3 : u_4 = FX3_goOn st lo th bm km qm bd ym) (i_5 : Int32) (ei_5 : i_5 = nn + 1) (c_125 : ¬ (r_1 = 1)) (c_146 : st ≤ 1) : LX3_skip_20 st lo n th bm km qm bd (u_4.1, u_4.2.1, 0, u_4.2.2.2) i_5 = LX3_skip_20 st lo (n + 1) th bm km qm bd ym nn := by
  subst hw_2
  subst hw_3
  subst ei_5
  exact ((((if_neg c_27).trans (if_neg c_50)).trans (if_neg c_125)).trans (if_pos c_146)).symm
set_option maxRecDepth 100000 in
theorem plX3_skip_l20_1 (st : Int32) (lo : Int32) (n : Nat) (th : Int32) (bm : Bm) (km : Rw) (qm : Tk) (bd : Int32) (ym : Tk) (nn : Int32) (c_27 : ¬ ((ym.1 - ym.1 / 8 * 8) = 0)) (c_50 : ¬ (st = 1)) (r_1 : Int32) (hw_2 : r_1 = FX3_bitAt st lo th bm km qm bd ym ym.1) (u_4 : Tk) (hw_3 : u_4 = FX3_goOn st lo th bm km qm bd ym) (i_5 : Int32) (ei_5 : i_5 = nn + 1) (c_125 : ¬ (r_1 = 1)) (c_146 : ¬ (st ≤ 1)) (c_157 : ¬ (0 = st)) : LX3_skip_20 st lo n th bm km qm bd (u_4.1, u_4.2.1, 0, u_4.2.2.2) i_5 = LX3_skip_20 st lo (n + 1) th bm km qm bd ym nn := by
  subst hw_2
  subst hw_3
  subst ei_5
  exact (((((if_neg c_27).trans (if_neg c_50)).trans (if_neg c_125)).trans (if_neg c_146)).trans (if_neg c_157)).symm
set_option maxRecDepth 100000 in
theorem plX3_skip_l20_2 (st : Int32) (lo : Int32) (n : Nat) (th : Int32) (bm : Bm) (km : Rw) (qm : Tk) (bd : Int32) (ym : Tk) (nn : Int32) (c_27 : ¬ ((ym.1 - ym.1 / 8 * 8) = 0)) (c_50 : ¬ (st = 1)) (r_1 : Int32) (hw_2 : r_1 = FX3_bitAt st lo th bm km qm bd ym ym.1) (u_4 : Tk) (hw_3 : u_4 = FX3_goOn st lo th bm km qm bd ym) (i_5 : Int32) (ei_5 : i_5 = nn + 1) (c_125 : ¬ (r_1 = 1)) (c_146 : ¬ (st ≤ 1)) (c_157 : 0 = st) (c_167 : (u_4.1 - u_4.1 / 8 * 8) = 0) : LX3_skip_20 st lo n th bm km qm bd (u_4.1, u_4.2.1, 0, u_4.2.2.2) i_5 = LX3_skip_20 st lo (n + 1) th bm km qm bd ym nn := by
  subst hw_2
  subst hw_3
  subst ei_5
  exact ((((((if_neg c_27).trans (if_neg c_50)).trans (if_neg c_125)).trans (if_neg c_146)).trans (if_pos c_157)).trans (if_pos c_167)).symm
set_option maxRecDepth 100000 in
theorem plX3_skip_l20_3 (st : Int32) (lo : Int32) (n : Nat) (th : Int32) (bm : Bm) (km : Rw) (qm : Tk) (bd : Int32) (ym : Tk) (nn : Int32) (c_27 : ¬ ((ym.1 - ym.1 / 8 * 8) = 0)) (c_50 : ¬ (st = 1)) (r_1 : Int32) (hw_2 : r_1 = FX3_bitAt st lo th bm km qm bd ym ym.1) (u_4 : Tk) (hw_3 : u_4 = FX3_goOn st lo th bm km qm bd ym) (i_5 : Int32) (ei_5 : i_5 = nn + 1) (c_125 : ¬ (r_1 = 1)) (c_146 : ¬ (st ≤ 1)) (c_157 : 0 = st) (c_167 : ¬ ((u_4.1 - u_4.1 / 8 * 8) = 0)) (f_6 : Int32) (ef_6 : f_6 = u_4.2.1 + 1) (u_8 : Tk) (hw_7 : u_8 = FX3_goOn st lo th bm km qm bd (u_4.1, f_6, 0, u_4.2.2.2)) : LX3_skip_20 st lo n th bm km qm bd (u_8.1, u_8.2.1, 0, u_8.2.2.2) i_5 = LX3_skip_20 st lo (n + 1) th bm km qm bd ym nn := by
  subst hw_2
  subst hw_3
  subst ei_5
  subst ef_6
  subst hw_7
  exact ((((((if_neg c_27).trans (if_neg c_50)).trans (if_neg c_125)).trans (if_neg c_146)).trans (if_pos c_157)).trans (if_neg c_167)).symm
set_option maxRecDepth 100000 in
theorem plX3_skip_l20_4 (st : Int32) (lo : Int32) (n : Nat) (th : Int32) (bm : Bm) (km : Rw) (qm : Tk) (bd : Int32) (ym : Tk) (nn : Int32) (c_27 : ¬ ((ym.1 - ym.1 / 8 * 8) = 0)) (c_50 : ¬ (st = 1)) (r_1 : Int32) (hw_2 : r_1 = FX3_bitAt st lo th bm km qm bd ym ym.1) (u_4 : Tk) (hw_3 : u_4 = FX3_goOn st lo th bm km qm bd ym) (i_5 : Int32) (ei_5 : i_5 = nn + 1) (c_125 : r_1 = 1) (f_9 : Int32) (ef_9 : f_9 = u_4.2.2.1 + 1) (c_146 : st ≤ 1) : LX3_skip_20 st lo n th bm km qm bd (u_4.1, u_4.2.1, f_9, u_4.2.2.2) i_5 = LX3_skip_20 st lo (n + 1) th bm km qm bd ym nn := by
  subst hw_2
  subst hw_3
  subst ei_5
  subst ef_9
  exact ((((if_neg c_27).trans (if_neg c_50)).trans (if_pos c_125)).trans (if_pos c_146)).symm
set_option maxRecDepth 100000 in
theorem plX3_skip_l20_5 (st : Int32) (lo : Int32) (n : Nat) (th : Int32) (bm : Bm) (km : Rw) (qm : Tk) (bd : Int32) (ym : Tk) (nn : Int32) (c_27 : ¬ ((ym.1 - ym.1 / 8 * 8) = 0)) (c_50 : ¬ (st = 1)) (r_1 : Int32) (hw_2 : r_1 = FX3_bitAt st lo th bm km qm bd ym ym.1) (u_4 : Tk) (hw_3 : u_4 = FX3_goOn st lo th bm km qm bd ym) (i_5 : Int32) (ei_5 : i_5 = nn + 1) (c_125 : r_1 = 1) (f_9 : Int32) (ef_9 : f_9 = u_4.2.2.1 + 1) (c_146 : ¬ (st ≤ 1)) (c_157 : ¬ (f_9 = st)) : LX3_skip_20 st lo n th bm km qm bd (u_4.1, u_4.2.1, f_9, u_4.2.2.2) i_5 = LX3_skip_20 st lo (n + 1) th bm km qm bd ym nn := by
  subst hw_2
  subst hw_3
  subst ei_5
  subst ef_9
  exact (((((if_neg c_27).trans (if_neg c_50)).trans (if_pos c_125)).trans (if_neg c_146)).trans (if_neg c_157)).symm
set_option maxRecDepth 100000 in
theorem plX3_skip_l20_6 (st : Int32) (lo : Int32) (n : Nat) (th : Int32) (bm : Bm) (km : Rw) (qm : Tk) (bd : Int32) (ym : Tk) (nn : Int32) (c_27 : ¬ ((ym.1 - ym.1 / 8 * 8) = 0)) (c_50 : ¬ (st = 1)) (r_1 : Int32) (hw_2 : r_1 = FX3_bitAt st lo th bm km qm bd ym ym.1) (u_4 : Tk) (hw_3 : u_4 = FX3_goOn st lo th bm km qm bd ym) (i_5 : Int32) (ei_5 : i_5 = nn + 1) (c_125 : r_1 = 1) (f_9 : Int32) (ef_9 : f_9 = u_4.2.2.1 + 1) (c_146 : ¬ (st ≤ 1)) (c_157 : f_9 = st) (c_167 : (u_4.1 - u_4.1 / 8 * 8) = 0) : LX3_skip_20 st lo n th bm km qm bd (u_4.1, u_4.2.1, f_9, u_4.2.2.2) i_5 = LX3_skip_20 st lo (n + 1) th bm km qm bd ym nn := by
  subst hw_2
  subst hw_3
  subst ei_5
  subst ef_9
  exact ((((((if_neg c_27).trans (if_neg c_50)).trans (if_pos c_125)).trans (if_neg c_146)).trans (if_pos c_157)).trans (if_pos c_167)).symm
set_option maxRecDepth 100000 in
theorem plX3_skip_l20_7 (st : Int32) (lo : Int32) (n : Nat) (th : Int32) (bm : Bm) (km : Rw) (qm : Tk) (bd : Int32) (ym : Tk) (nn : Int32) (c_27 : ¬ ((ym.1 - ym.1 / 8 * 8) = 0)) (c_50 : ¬ (st = 1)) (r_1 : Int32) (hw_2 : r_1 = FX3_bitAt st lo th bm km qm bd ym ym.1) (u_4 : Tk) (hw_3 : u_4 = FX3_goOn st lo th bm km qm bd ym) (i_5 : Int32) (ei_5 : i_5 = nn + 1) (c_125 : r_1 = 1) (f_9 : Int32) (ef_9 : f_9 = u_4.2.2.1 + 1) (c_146 : ¬ (st ≤ 1)) (c_157 : f_9 = st) (c_167 : ¬ ((u_4.1 - u_4.1 / 8 * 8) = 0)) (f_10 : Int32) (ef_10 : f_10 = u_4.2.1 + 1) (u_12 : Tk) (hw_11 : u_12 = FX3_goOn st lo th bm km qm bd (u_4.1, f_10, f_9, u_4.2.2.2)) : LX3_skip_20 st lo n th bm km qm bd (u_12.1, u_12.2.1, 0, u_12.2.2.2) i_5 = LX3_skip_20 st lo (n + 1) th bm km qm bd ym nn := by
  subst hw_2
  subst hw_3
  subst ei_5
  subst ef_9
  subst ef_10
  subst hw_11
  exact ((((((if_neg c_27).trans (if_neg c_50)).trans (if_pos c_125)).trans (if_neg c_146)).trans (if_pos c_157)).trans (if_neg c_167)).symm
set_option maxRecDepth 100000 in
theorem plX3_skip_l20_8 (st : Int32) (lo : Int32) (n : Nat) (th : Int32) (bm : Bm) (km : Rw) (qm : Tk) (bd : Int32) (ym : Tk) (nn : Int32) (c_27 : ¬ ((ym.1 - ym.1 / 8 * 8) = 0)) (c_50 : st = 1) (c_57 : ym.2.2.2 = 0) (r_13 : Int32) (hw_14 : r_13 = FX3_bitAt st lo th bm km qm bd ym ym.1) (u_16 : Tk) (hw_15 : u_16 = FX3_goOn st lo th bm km qm bd ym) (i_17 : Int32) (ei_17 : i_17 = nn + 1) (c_125 : ¬ (r_13 = 1)) (c_146 : st ≤ 1) : LX3_skip_20 st lo n th bm km qm bd (u_16.1, u_16.2.1, 0, u_16.2.2.2) i_17 = LX3_skip_20 st lo (n + 1) th bm km qm bd ym nn := by
  subst hw_14
  subst hw_15
  subst ei_17
  exact (((((if_neg c_27).trans (if_pos c_50)).trans (if_pos c_57)).trans (if_neg c_125)).trans (if_pos c_146)).symm
set_option maxRecDepth 100000 in
theorem plX3_skip_l20_9 (st : Int32) (lo : Int32) (n : Nat) (th : Int32) (bm : Bm) (km : Rw) (qm : Tk) (bd : Int32) (ym : Tk) (nn : Int32) (c_27 : ¬ ((ym.1 - ym.1 / 8 * 8) = 0)) (c_50 : st = 1) (c_57 : ym.2.2.2 = 0) (r_13 : Int32) (hw_14 : r_13 = FX3_bitAt st lo th bm km qm bd ym ym.1) (u_16 : Tk) (hw_15 : u_16 = FX3_goOn st lo th bm km qm bd ym) (i_17 : Int32) (ei_17 : i_17 = nn + 1) (c_125 : ¬ (r_13 = 1)) (c_146 : ¬ (st ≤ 1)) (c_157 : ¬ (0 = st)) : LX3_skip_20 st lo n th bm km qm bd (u_16.1, u_16.2.1, 0, u_16.2.2.2) i_17 = LX3_skip_20 st lo (n + 1) th bm km qm bd ym nn := by
  subst hw_14
  subst hw_15
  subst ei_17
  exact ((((((if_neg c_27).trans (if_pos c_50)).trans (if_pos c_57)).trans (if_neg c_125)).trans (if_neg c_146)).trans (if_neg c_157)).symm
set_option maxRecDepth 100000 in
theorem plX3_skip_l20_10 (st : Int32) (lo : Int32) (n : Nat) (th : Int32) (bm : Bm) (km : Rw) (qm : Tk) (bd : Int32) (ym : Tk) (nn : Int32) (c_27 : ¬ ((ym.1 - ym.1 / 8 * 8) = 0)) (c_50 : st = 1) (c_57 : ym.2.2.2 = 0) (r_13 : Int32) (hw_14 : r_13 = FX3_bitAt st lo th bm km qm bd ym ym.1) (u_16 : Tk) (hw_15 : u_16 = FX3_goOn st lo th bm km qm bd ym) (i_17 : Int32) (ei_17 : i_17 = nn + 1) (c_125 : ¬ (r_13 = 1)) (c_146 : ¬ (st ≤ 1)) (c_157 : 0 = st) (c_167 : (u_16.1 - u_16.1 / 8 * 8) = 0) : LX3_skip_20 st lo n th bm km qm bd (u_16.1, u_16.2.1, 0, u_16.2.2.2) i_17 = LX3_skip_20 st lo (n + 1) th bm km qm bd ym nn := by
  subst hw_14
  subst hw_15
  subst ei_17
  exact (((((((if_neg c_27).trans (if_pos c_50)).trans (if_pos c_57)).trans (if_neg c_125)).trans (if_neg c_146)).trans (if_pos c_157)).trans (if_pos c_167)).symm
set_option maxRecDepth 100000 in
theorem plX3_skip_l20_11 (st : Int32) (lo : Int32) (n : Nat) (th : Int32) (bm : Bm) (km : Rw) (qm : Tk) (bd : Int32) (ym : Tk) (nn : Int32) (c_27 : ¬ ((ym.1 - ym.1 / 8 * 8) = 0)) (c_50 : st = 1) (c_57 : ym.2.2.2 = 0) (r_13 : Int32) (hw_14 : r_13 = FX3_bitAt st lo th bm km qm bd ym ym.1) (u_16 : Tk) (hw_15 : u_16 = FX3_goOn st lo th bm km qm bd ym) (i_17 : Int32) (ei_17 : i_17 = nn + 1) (c_125 : ¬ (r_13 = 1)) (c_146 : ¬ (st ≤ 1)) (c_157 : 0 = st) (c_167 : ¬ ((u_16.1 - u_16.1 / 8 * 8) = 0)) (f_18 : Int32) (ef_18 : f_18 = u_16.2.1 + 1) (u_20 : Tk) (hw_19 : u_20 = FX3_goOn st lo th bm km qm bd (u_16.1, f_18, 0, u_16.2.2.2)) : LX3_skip_20 st lo n th bm km qm bd (u_20.1, u_20.2.1, 0, u_20.2.2.2) i_17 = LX3_skip_20 st lo (n + 1) th bm km qm bd ym nn := by
  subst hw_14
  subst hw_15
  subst ei_17
  subst ef_18
  subst hw_19
  exact (((((((if_neg c_27).trans (if_pos c_50)).trans (if_pos c_57)).trans (if_neg c_125)).trans (if_neg c_146)).trans (if_pos c_157)).trans (if_neg c_167)).symm
set_option maxRecDepth 100000 in
theorem plX3_skip_l20_12 (st : Int32) (lo : Int32) (n : Nat) (th : Int32) (bm : Bm) (km : Rw) (qm : Tk) (bd : Int32) (ym : Tk) (nn : Int32) (c_27 : ¬ ((ym.1 - ym.1 / 8 * 8) = 0)) (c_50 : st = 1) (c_57 : ym.2.2.2 = 0) (r_13 : Int32) (hw_14 : r_13 = FX3_bitAt st lo th bm km qm bd ym ym.1) (u_16 : Tk) (hw_15 : u_16 = FX3_goOn st lo th bm km qm bd ym) (i_17 : Int32) (ei_17 : i_17 = nn + 1) (c_125 : r_13 = 1) (f_21 : Int32) (ef_21 : f_21 = u_16.2.2.1 + 1) (c_146 : st ≤ 1) : LX3_skip_20 st lo n th bm km qm bd (u_16.1, u_16.2.1, f_21, u_16.2.2.2) i_17 = LX3_skip_20 st lo (n + 1) th bm km qm bd ym nn := by
  subst hw_14
  subst hw_15
  subst ei_17
  subst ef_21
  exact (((((if_neg c_27).trans (if_pos c_50)).trans (if_pos c_57)).trans (if_pos c_125)).trans (if_pos c_146)).symm
set_option maxRecDepth 100000 in
theorem plX3_skip_l20_13 (st : Int32) (lo : Int32) (n : Nat) (th : Int32) (bm : Bm) (km : Rw) (qm : Tk) (bd : Int32) (ym : Tk) (nn : Int32) (c_27 : ¬ ((ym.1 - ym.1 / 8 * 8) = 0)) (c_50 : st = 1) (c_57 : ym.2.2.2 = 0) (r_13 : Int32) (hw_14 : r_13 = FX3_bitAt st lo th bm km qm bd ym ym.1) (u_16 : Tk) (hw_15 : u_16 = FX3_goOn st lo th bm km qm bd ym) (i_17 : Int32) (ei_17 : i_17 = nn + 1) (c_125 : r_13 = 1) (f_21 : Int32) (ef_21 : f_21 = u_16.2.2.1 + 1) (c_146 : ¬ (st ≤ 1)) (c_157 : ¬ (f_21 = st)) : LX3_skip_20 st lo n th bm km qm bd (u_16.1, u_16.2.1, f_21, u_16.2.2.2) i_17 = LX3_skip_20 st lo (n + 1) th bm km qm bd ym nn := by
  subst hw_14
  subst hw_15
  subst ei_17
  subst ef_21
  exact ((((((if_neg c_27).trans (if_pos c_50)).trans (if_pos c_57)).trans (if_pos c_125)).trans (if_neg c_146)).trans (if_neg c_157)).symm
set_option maxRecDepth 100000 in
theorem plX3_skip_l20_14 (st : Int32) (lo : Int32) (n : Nat) (th : Int32) (bm : Bm) (km : Rw) (qm : Tk) (bd : Int32) (ym : Tk) (nn : Int32) (c_27 : ¬ ((ym.1 - ym.1 / 8 * 8) = 0)) (c_50 : st = 1) (c_57 : ym.2.2.2 = 0) (r_13 : Int32) (hw_14 : r_13 = FX3_bitAt st lo th bm km qm bd ym ym.1) (u_16 : Tk) (hw_15 : u_16 = FX3_goOn st lo th bm km qm bd ym) (i_17 : Int32) (ei_17 : i_17 = nn + 1) (c_125 : r_13 = 1) (f_21 : Int32) (ef_21 : f_21 = u_16.2.2.1 + 1) (c_146 : ¬ (st ≤ 1)) (c_157 : f_21 = st) (c_167 : (u_16.1 - u_16.1 / 8 * 8) = 0) : LX3_skip_20 st lo n th bm km qm bd (u_16.1, u_16.2.1, f_21, u_16.2.2.2) i_17 = LX3_skip_20 st lo (n + 1) th bm km qm bd ym nn := by
  subst hw_14
  subst hw_15
  subst ei_17
  subst ef_21
  exact (((((((if_neg c_27).trans (if_pos c_50)).trans (if_pos c_57)).trans (if_pos c_125)).trans (if_neg c_146)).trans (if_pos c_157)).trans (if_pos c_167)).symm
set_option maxRecDepth 100000 in
theorem plX3_skip_l20_15 (st : Int32) (lo : Int32) (n : Nat) (th : Int32) (bm : Bm) (km : Rw) (qm : Tk) (bd : Int32) (ym : Tk) (nn : Int32) (c_27 : ¬ ((ym.1 - ym.1 / 8 * 8) = 0)) (c_50 : st = 1) (c_57 : ym.2.2.2 = 0) (r_13 : Int32) (hw_14 : r_13 = FX3_bitAt st lo th bm km qm bd ym ym.1) (u_16 : Tk) (hw_15 : u_16 = FX3_goOn st lo th bm km qm bd ym) (i_17 : Int32) (ei_17 : i_17 = nn + 1) (c_125 : r_13 = 1) (f_21 : Int32) (ef_21 : f_21 = u_16.2.2.1 + 1) (c_146 : ¬ (st ≤ 1)) (c_157 : f_21 = st) (c_167 : ¬ ((u_16.1 - u_16.1 / 8 * 8) = 0)) (f_22 : Int32) (ef_22 : f_22 = u_16.2.1 + 1) (u_24 : Tk) (hw_23 : u_24 = FX3_goOn st lo th bm km qm bd (u_16.1, f_22, f_21, u_16.2.2.2)) : LX3_skip_20 st lo n th bm km qm bd (u_24.1, u_24.2.1, 0, u_24.2.2.2) i_17 = LX3_skip_20 st lo (n + 1) th bm km qm bd ym nn := by
  subst hw_14
  subst hw_15
  subst ei_17
  subst ef_21
  subst ef_22
  subst hw_23
  exact (((((((if_neg c_27).trans (if_pos c_50)).trans (if_pos c_57)).trans (if_pos c_125)).trans (if_neg c_146)).trans (if_pos c_157)).trans (if_neg c_167)).symm
set_option maxRecDepth 100000 in
theorem plX3_skip_l20_16 (st : Int32) (lo : Int32) (n : Nat) (th : Int32) (bm : Bm) (km : Rw) (qm : Tk) (bd : Int32) (ym : Tk) (nn : Int32) (c_27 : ¬ ((ym.1 - ym.1 / 8 * 8) = 0)) (c_50 : st = 1) (c_57 : ¬ (ym.2.2.2 = 0)) (c_71 : lo = 0) (c_80 : ¬ ((ym.1 - ym.1 / 8 * 8) = 0)) (r_25 : Int32) (hw_26 : r_25 = FX3_bitAt st lo th bm km qm bd ym ym.1) (u_28 : Tk) (hw_27 : u_28 = FX3_goOn st lo th bm km qm bd ym) (i_29 : Int32) (ei_29 : i_29 = nn + 1) (c_125 : ¬ (r_25 = 1)) (c_146 : st ≤ 1) : LX3_skip_20 st lo n th bm km qm bd (u_28.1, u_28.2.1, 0, u_28.2.2.2) i_29 = LX3_skip_20 st lo (n + 1) th bm km qm bd ym nn := by
  subst hw_26
  subst hw_27
  subst ei_29
  exact (((((((if_neg c_27).trans (if_pos c_50)).trans (if_neg c_57)).trans (if_pos c_71)).trans (if_neg c_80)).trans (if_neg c_125)).trans (if_pos c_146)).symm
set_option maxRecDepth 100000 in
theorem plX3_skip_l20_17 (st : Int32) (lo : Int32) (n : Nat) (th : Int32) (bm : Bm) (km : Rw) (qm : Tk) (bd : Int32) (ym : Tk) (nn : Int32) (c_27 : ¬ ((ym.1 - ym.1 / 8 * 8) = 0)) (c_50 : st = 1) (c_57 : ¬ (ym.2.2.2 = 0)) (c_71 : lo = 0) (c_80 : ¬ ((ym.1 - ym.1 / 8 * 8) = 0)) (r_25 : Int32) (hw_26 : r_25 = FX3_bitAt st lo th bm km qm bd ym ym.1) (u_28 : Tk) (hw_27 : u_28 = FX3_goOn st lo th bm km qm bd ym) (i_29 : Int32) (ei_29 : i_29 = nn + 1) (c_125 : ¬ (r_25 = 1)) (c_146 : ¬ (st ≤ 1)) (c_157 : ¬ (0 = st)) : LX3_skip_20 st lo n th bm km qm bd (u_28.1, u_28.2.1, 0, u_28.2.2.2) i_29 = LX3_skip_20 st lo (n + 1) th bm km qm bd ym nn := by
  subst hw_26
  subst hw_27
  subst ei_29
  exact ((((((((if_neg c_27).trans (if_pos c_50)).trans (if_neg c_57)).trans (if_pos c_71)).trans (if_neg c_80)).trans (if_neg c_125)).trans (if_neg c_146)).trans (if_neg c_157)).symm
set_option maxRecDepth 100000 in
theorem plX3_skip_l20_18 (st : Int32) (lo : Int32) (n : Nat) (th : Int32) (bm : Bm) (km : Rw) (qm : Tk) (bd : Int32) (ym : Tk) (nn : Int32) (c_27 : ¬ ((ym.1 - ym.1 / 8 * 8) = 0)) (c_50 : st = 1) (c_57 : ¬ (ym.2.2.2 = 0)) (c_71 : lo = 0) (c_80 : ¬ ((ym.1 - ym.1 / 8 * 8) = 0)) (r_25 : Int32) (hw_26 : r_25 = FX3_bitAt st lo th bm km qm bd ym ym.1) (u_28 : Tk) (hw_27 : u_28 = FX3_goOn st lo th bm km qm bd ym) (i_29 : Int32) (ei_29 : i_29 = nn + 1) (c_125 : ¬ (r_25 = 1)) (c_146 : ¬ (st ≤ 1)) (c_157 : 0 = st) (c_167 : (u_28.1 - u_28.1 / 8 * 8) = 0) : LX3_skip_20 st lo n th bm km qm bd (u_28.1, u_28.2.1, 0, u_28.2.2.2) i_29 = LX3_skip_20 st lo (n + 1) th bm km qm bd ym nn := by
  subst hw_26
  subst hw_27
  subst ei_29
  exact (((((((((if_neg c_27).trans (if_pos c_50)).trans (if_neg c_57)).trans (if_pos c_71)).trans (if_neg c_80)).trans (if_neg c_125)).trans (if_neg c_146)).trans (if_pos c_157)).trans (if_pos c_167)).symm
set_option maxRecDepth 100000 in
theorem plX3_skip_l20_19 (st : Int32) (lo : Int32) (n : Nat) (th : Int32) (bm : Bm) (km : Rw) (qm : Tk) (bd : Int32) (ym : Tk) (nn : Int32) (c_27 : ¬ ((ym.1 - ym.1 / 8 * 8) = 0)) (c_50 : st = 1) (c_57 : ¬ (ym.2.2.2 = 0)) (c_71 : lo = 0) (c_80 : ¬ ((ym.1 - ym.1 / 8 * 8) = 0)) (r_25 : Int32) (hw_26 : r_25 = FX3_bitAt st lo th bm km qm bd ym ym.1) (u_28 : Tk) (hw_27 : u_28 = FX3_goOn st lo th bm km qm bd ym) (i_29 : Int32) (ei_29 : i_29 = nn + 1) (c_125 : ¬ (r_25 = 1)) (c_146 : ¬ (st ≤ 1)) (c_157 : 0 = st) (c_167 : ¬ ((u_28.1 - u_28.1 / 8 * 8) = 0)) (f_30 : Int32) (ef_30 : f_30 = u_28.2.1 + 1) (u_32 : Tk) (hw_31 : u_32 = FX3_goOn st lo th bm km qm bd (u_28.1, f_30, 0, u_28.2.2.2)) : LX3_skip_20 st lo n th bm km qm bd (u_32.1, u_32.2.1, 0, u_32.2.2.2) i_29 = LX3_skip_20 st lo (n + 1) th bm km qm bd ym nn := by
  subst hw_26
  subst hw_27
  subst ei_29
  subst ef_30
  subst hw_31
  exact (((((((((if_neg c_27).trans (if_pos c_50)).trans (if_neg c_57)).trans (if_pos c_71)).trans (if_neg c_80)).trans (if_neg c_125)).trans (if_neg c_146)).trans (if_pos c_157)).trans (if_neg c_167)).symm
set_option maxRecDepth 100000 in
theorem plX3_skip_l20_20 (st : Int32) (lo : Int32) (n : Nat) (th : Int32) (bm : Bm) (km : Rw) (qm : Tk) (bd : Int32) (ym : Tk) (nn : Int32) (c_27 : ¬ ((ym.1 - ym.1 / 8 * 8) = 0)) (c_50 : st = 1) (c_57 : ¬ (ym.2.2.2 = 0)) (c_71 : lo = 0) (c_80 : ¬ ((ym.1 - ym.1 / 8 * 8) = 0)) (r_25 : Int32) (hw_26 : r_25 = FX3_bitAt st lo th bm km qm bd ym ym.1) (u_28 : Tk) (hw_27 : u_28 = FX3_goOn st lo th bm km qm bd ym) (i_29 : Int32) (ei_29 : i_29 = nn + 1) (c_125 : r_25 = 1) (f_33 : Int32) (ef_33 : f_33 = u_28.2.2.1 + 1) (c_146 : st ≤ 1) : LX3_skip_20 st lo n th bm km qm bd (u_28.1, u_28.2.1, f_33, u_28.2.2.2) i_29 = LX3_skip_20 st lo (n + 1) th bm km qm bd ym nn := by
  subst hw_26
  subst hw_27
  subst ei_29
  subst ef_33
  exact (((((((if_neg c_27).trans (if_pos c_50)).trans (if_neg c_57)).trans (if_pos c_71)).trans (if_neg c_80)).trans (if_pos c_125)).trans (if_pos c_146)).symm
set_option maxRecDepth 100000 in
theorem plX3_skip_l20_21 (st : Int32) (lo : Int32) (n : Nat) (th : Int32) (bm : Bm) (km : Rw) (qm : Tk) (bd : Int32) (ym : Tk) (nn : Int32) (c_27 : ¬ ((ym.1 - ym.1 / 8 * 8) = 0)) (c_50 : st = 1) (c_57 : ¬ (ym.2.2.2 = 0)) (c_71 : lo = 0) (c_80 : ¬ ((ym.1 - ym.1 / 8 * 8) = 0)) (r_25 : Int32) (hw_26 : r_25 = FX3_bitAt st lo th bm km qm bd ym ym.1) (u_28 : Tk) (hw_27 : u_28 = FX3_goOn st lo th bm km qm bd ym) (i_29 : Int32) (ei_29 : i_29 = nn + 1) (c_125 : r_25 = 1) (f_33 : Int32) (ef_33 : f_33 = u_28.2.2.1 + 1) (c_146 : ¬ (st ≤ 1)) (c_157 : ¬ (f_33 = st)) : LX3_skip_20 st lo n th bm km qm bd (u_28.1, u_28.2.1, f_33, u_28.2.2.2) i_29 = LX3_skip_20 st lo (n + 1) th bm km qm bd ym nn := by
  subst hw_26
  subst hw_27
  subst ei_29
  subst ef_33
  exact ((((((((if_neg c_27).trans (if_pos c_50)).trans (if_neg c_57)).trans (if_pos c_71)).trans (if_neg c_80)).trans (if_pos c_125)).trans (if_neg c_146)).trans (if_neg c_157)).symm
set_option maxRecDepth 100000 in
theorem plX3_skip_l20_22 (st : Int32) (lo : Int32) (n : Nat) (th : Int32) (bm : Bm) (km : Rw) (qm : Tk) (bd : Int32) (ym : Tk) (nn : Int32) (c_27 : ¬ ((ym.1 - ym.1 / 8 * 8) = 0)) (c_50 : st = 1) (c_57 : ¬ (ym.2.2.2 = 0)) (c_71 : lo = 0) (c_80 : ¬ ((ym.1 - ym.1 / 8 * 8) = 0)) (r_25 : Int32) (hw_26 : r_25 = FX3_bitAt st lo th bm km qm bd ym ym.1) (u_28 : Tk) (hw_27 : u_28 = FX3_goOn st lo th bm km qm bd ym) (i_29 : Int32) (ei_29 : i_29 = nn + 1) (c_125 : r_25 = 1) (f_33 : Int32) (ef_33 : f_33 = u_28.2.2.1 + 1) (c_146 : ¬ (st ≤ 1)) (c_157 : f_33 = st) (c_167 : (u_28.1 - u_28.1 / 8 * 8) = 0) : LX3_skip_20 st lo n th bm km qm bd (u_28.1, u_28.2.1, f_33, u_28.2.2.2) i_29 = LX3_skip_20 st lo (n + 1) th bm km qm bd ym nn := by
  subst hw_26
  subst hw_27
  subst ei_29
  subst ef_33
  exact (((((((((if_neg c_27).trans (if_pos c_50)).trans (if_neg c_57)).trans (if_pos c_71)).trans (if_neg c_80)).trans (if_pos c_125)).trans (if_neg c_146)).trans (if_pos c_157)).trans (if_pos c_167)).symm
set_option maxRecDepth 100000 in
theorem plX3_skip_l20_23 (st : Int32) (lo : Int32) (n : Nat) (th : Int32) (bm : Bm) (km : Rw) (qm : Tk) (bd : Int32) (ym : Tk) (nn : Int32) (c_27 : ¬ ((ym.1 - ym.1 / 8 * 8) = 0)) (c_50 : st = 1) (c_57 : ¬ (ym.2.2.2 = 0)) (c_71 : lo = 0) (c_80 : ¬ ((ym.1 - ym.1 / 8 * 8) = 0)) (r_25 : Int32) (hw_26 : r_25 = FX3_bitAt st lo th bm km qm bd ym ym.1) (u_28 : Tk) (hw_27 : u_28 = FX3_goOn st lo th bm km qm bd ym) (i_29 : Int32) (ei_29 : i_29 = nn + 1) (c_125 : r_25 = 1) (f_33 : Int32) (ef_33 : f_33 = u_28.2.2.1 + 1) (c_146 : ¬ (st ≤ 1)) (c_157 : f_33 = st) (c_167 : ¬ ((u_28.1 - u_28.1 / 8 * 8) = 0)) (f_34 : Int32) (ef_34 : f_34 = u_28.2.1 + 1) (u_36 : Tk) (hw_35 : u_36 = FX3_goOn st lo th bm km qm bd (u_28.1, f_34, f_33, u_28.2.2.2)) : LX3_skip_20 st lo n th bm km qm bd (u_36.1, u_36.2.1, 0, u_36.2.2.2) i_29 = LX3_skip_20 st lo (n + 1) th bm km qm bd ym nn := by
  subst hw_26
  subst hw_27
  subst ei_29
  subst ef_33
  subst ef_34
  subst hw_35
  exact (((((((((if_neg c_27).trans (if_pos c_50)).trans (if_neg c_57)).trans (if_pos c_71)).trans (if_neg c_80)).trans (if_pos c_125)).trans (if_neg c_146)).trans (if_pos c_157)).trans (if_neg c_167)).symm
set_option maxRecDepth 100000 in
theorem plX3_skip_l20_24 (st : Int32) (lo : Int32) (n : Nat) (th : Int32) (bm : Bm) (km : Rw) (qm : Tk) (bd : Int32) (ym : Tk) (nn : Int32) (c_27 : ¬ ((ym.1 - ym.1 / 8 * 8) = 0)) (c_50 : st = 1) (c_57 : ¬ (ym.2.2.2 = 0)) (c_71 : lo = 0) (c_80 : (ym.1 - ym.1 / 8 * 8) = 0) (r_37 : Int32) (hw_38 : r_37 = FX3_bitAt st lo th bm km qm bd ym ym.1) (u_40 : Tk) (hw_39 : u_40 = FX3_goOn st lo th bm km qm bd ym) (f_41 : Int32) (ef_41 : f_41 = u_40.2.1 + 1) : LX3_skip_20 st lo n th bm km qm bd (u_40.1, f_41, u_40.2.2.1, u_40.2.2.2) nn = LX3_skip_20 st lo (n + 1) th bm km qm bd ym nn := by
  subst hw_38
  subst hw_39
  subst ef_41
  exact (((((if_neg c_27).trans (if_pos c_50)).trans (if_neg c_57)).trans (if_pos c_71)).trans (if_pos c_80)).symm
set_option maxRecDepth 100000 in
theorem plX3_skip_l20_25 (st : Int32) (lo : Int32) (n : Nat) (th : Int32) (bm : Bm) (km : Rw) (qm : Tk) (bd : Int32) (ym : Tk) (nn : Int32) (c_27 : ¬ ((ym.1 - ym.1 / 8 * 8) = 0)) (c_50 : st = 1) (c_57 : ¬ (ym.2.2.2 = 0)) (c_71 : ¬ (lo = 0)) (c_80 : ¬ ((ym.1 - ym.1 / 8 * 8) = 7)) (r_42 : Int32) (hw_43 : r_42 = FX3_bitAt st lo th bm km qm bd ym ym.1) (u_45 : Tk) (hw_44 : u_45 = FX3_goOn st lo th bm km qm bd ym) (i_46 : Int32) (ei_46 : i_46 = nn + 1) (c_125 : ¬ (r_42 = 1)) (c_146 : st ≤ 1) : LX3_skip_20 st lo n th bm km qm bd (u_45.1, u_45.2.1, 0, u_45.2.2.2) i_46 = LX3_skip_20 st lo (n + 1) th bm km qm bd ym nn := by
  subst hw_43
  subst hw_44
  subst ei_46
  exact (((((((if_neg c_27).trans (if_pos c_50)).trans (if_neg c_57)).trans (if_neg c_71)).trans (if_neg c_80)).trans (if_neg c_125)).trans (if_pos c_146)).symm
set_option maxRecDepth 100000 in
theorem plX3_skip_l20_26 (st : Int32) (lo : Int32) (n : Nat) (th : Int32) (bm : Bm) (km : Rw) (qm : Tk) (bd : Int32) (ym : Tk) (nn : Int32) (c_27 : ¬ ((ym.1 - ym.1 / 8 * 8) = 0)) (c_50 : st = 1) (c_57 : ¬ (ym.2.2.2 = 0)) (c_71 : ¬ (lo = 0)) (c_80 : ¬ ((ym.1 - ym.1 / 8 * 8) = 7)) (r_42 : Int32) (hw_43 : r_42 = FX3_bitAt st lo th bm km qm bd ym ym.1) (u_45 : Tk) (hw_44 : u_45 = FX3_goOn st lo th bm km qm bd ym) (i_46 : Int32) (ei_46 : i_46 = nn + 1) (c_125 : ¬ (r_42 = 1)) (c_146 : ¬ (st ≤ 1)) (c_157 : ¬ (0 = st)) : LX3_skip_20 st lo n th bm km qm bd (u_45.1, u_45.2.1, 0, u_45.2.2.2) i_46 = LX3_skip_20 st lo (n + 1) th bm km qm bd ym nn := by
  subst hw_43
  subst hw_44
  subst ei_46
  exact ((((((((if_neg c_27).trans (if_pos c_50)).trans (if_neg c_57)).trans (if_neg c_71)).trans (if_neg c_80)).trans (if_neg c_125)).trans (if_neg c_146)).trans (if_neg c_157)).symm
set_option maxRecDepth 100000 in
theorem plX3_skip_l20_27 (st : Int32) (lo : Int32) (n : Nat) (th : Int32) (bm : Bm) (km : Rw) (qm : Tk) (bd : Int32) (ym : Tk) (nn : Int32) (c_27 : ¬ ((ym.1 - ym.1 / 8 * 8) = 0)) (c_50 : st = 1) (c_57 : ¬ (ym.2.2.2 = 0)) (c_71 : ¬ (lo = 0)) (c_80 : ¬ ((ym.1 - ym.1 / 8 * 8) = 7)) (r_42 : Int32) (hw_43 : r_42 = FX3_bitAt st lo th bm km qm bd ym ym.1) (u_45 : Tk) (hw_44 : u_45 = FX3_goOn st lo th bm km qm bd ym) (i_46 : Int32) (ei_46 : i_46 = nn + 1) (c_125 : ¬ (r_42 = 1)) (c_146 : ¬ (st ≤ 1)) (c_157 : 0 = st) (c_167 : (u_45.1 - u_45.1 / 8 * 8) = 0) : LX3_skip_20 st lo n th bm km qm bd (u_45.1, u_45.2.1, 0, u_45.2.2.2) i_46 = LX3_skip_20 st lo (n + 1) th bm km qm bd ym nn := by
  subst hw_43
  subst hw_44
  subst ei_46
  exact (((((((((if_neg c_27).trans (if_pos c_50)).trans (if_neg c_57)).trans (if_neg c_71)).trans (if_neg c_80)).trans (if_neg c_125)).trans (if_neg c_146)).trans (if_pos c_157)).trans (if_pos c_167)).symm
set_option maxRecDepth 100000 in
theorem plX3_skip_l20_28 (st : Int32) (lo : Int32) (n : Nat) (th : Int32) (bm : Bm) (km : Rw) (qm : Tk) (bd : Int32) (ym : Tk) (nn : Int32) (c_27 : ¬ ((ym.1 - ym.1 / 8 * 8) = 0)) (c_50 : st = 1) (c_57 : ¬ (ym.2.2.2 = 0)) (c_71 : ¬ (lo = 0)) (c_80 : ¬ ((ym.1 - ym.1 / 8 * 8) = 7)) (r_42 : Int32) (hw_43 : r_42 = FX3_bitAt st lo th bm km qm bd ym ym.1) (u_45 : Tk) (hw_44 : u_45 = FX3_goOn st lo th bm km qm bd ym) (i_46 : Int32) (ei_46 : i_46 = nn + 1) (c_125 : ¬ (r_42 = 1)) (c_146 : ¬ (st ≤ 1)) (c_157 : 0 = st) (c_167 : ¬ ((u_45.1 - u_45.1 / 8 * 8) = 0)) (f_47 : Int32) (ef_47 : f_47 = u_45.2.1 + 1) (u_49 : Tk) (hw_48 : u_49 = FX3_goOn st lo th bm km qm bd (u_45.1, f_47, 0, u_45.2.2.2)) : LX3_skip_20 st lo n th bm km qm bd (u_49.1, u_49.2.1, 0, u_49.2.2.2) i_46 = LX3_skip_20 st lo (n + 1) th bm km qm bd ym nn := by
  subst hw_43
  subst hw_44
  subst ei_46
  subst ef_47
  subst hw_48
  exact (((((((((if_neg c_27).trans (if_pos c_50)).trans (if_neg c_57)).trans (if_neg c_71)).trans (if_neg c_80)).trans (if_neg c_125)).trans (if_neg c_146)).trans (if_pos c_157)).trans (if_neg c_167)).symm
set_option maxRecDepth 100000 in
theorem plX3_skip_l20_29 (st : Int32) (lo : Int32) (n : Nat) (th : Int32) (bm : Bm) (km : Rw) (qm : Tk) (bd : Int32) (ym : Tk) (nn : Int32) (c_27 : ¬ ((ym.1 - ym.1 / 8 * 8) = 0)) (c_50 : st = 1) (c_57 : ¬ (ym.2.2.2 = 0)) (c_71 : ¬ (lo = 0)) (c_80 : ¬ ((ym.1 - ym.1 / 8 * 8) = 7)) (r_42 : Int32) (hw_43 : r_42 = FX3_bitAt st lo th bm km qm bd ym ym.1) (u_45 : Tk) (hw_44 : u_45 = FX3_goOn st lo th bm km qm bd ym) (i_46 : Int32) (ei_46 : i_46 = nn + 1) (c_125 : r_42 = 1) (f_50 : Int32) (ef_50 : f_50 = u_45.2.2.1 + 1) (c_146 : st ≤ 1) : LX3_skip_20 st lo n th bm km qm bd (u_45.1, u_45.2.1, f_50, u_45.2.2.2) i_46 = LX3_skip_20 st lo (n + 1) th bm km qm bd ym nn := by
  subst hw_43
  subst hw_44
  subst ei_46
  subst ef_50
  exact (((((((if_neg c_27).trans (if_pos c_50)).trans (if_neg c_57)).trans (if_neg c_71)).trans (if_neg c_80)).trans (if_pos c_125)).trans (if_pos c_146)).symm
set_option maxRecDepth 100000 in
theorem plX3_skip_l20_30 (st : Int32) (lo : Int32) (n : Nat) (th : Int32) (bm : Bm) (km : Rw) (qm : Tk) (bd : Int32) (ym : Tk) (nn : Int32) (c_27 : ¬ ((ym.1 - ym.1 / 8 * 8) = 0)) (c_50 : st = 1) (c_57 : ¬ (ym.2.2.2 = 0)) (c_71 : ¬ (lo = 0)) (c_80 : ¬ ((ym.1 - ym.1 / 8 * 8) = 7)) (r_42 : Int32) (hw_43 : r_42 = FX3_bitAt st lo th bm km qm bd ym ym.1) (u_45 : Tk) (hw_44 : u_45 = FX3_goOn st lo th bm km qm bd ym) (i_46 : Int32) (ei_46 : i_46 = nn + 1) (c_125 : r_42 = 1) (f_50 : Int32) (ef_50 : f_50 = u_45.2.2.1 + 1) (c_146 : ¬ (st ≤ 1)) (c_157 : ¬ (f_50 = st)) : LX3_skip_20 st lo n th bm km qm bd (u_45.1, u_45.2.1, f_50, u_45.2.2.2) i_46 = LX3_skip_20 st lo (n + 1) th bm km qm bd ym nn := by
  subst hw_43
  subst hw_44
  subst ei_46
  subst ef_50
  exact ((((((((if_neg c_27).trans (if_pos c_50)).trans (if_neg c_57)).trans (if_neg c_71)).trans (if_neg c_80)).trans (if_pos c_125)).trans (if_neg c_146)).trans (if_neg c_157)).symm
set_option maxRecDepth 100000 in
theorem plX3_skip_l20_31 (st : Int32) (lo : Int32) (n : Nat) (th : Int32) (bm : Bm) (km : Rw) (qm : Tk) (bd : Int32) (ym : Tk) (nn : Int32) (c_27 : ¬ ((ym.1 - ym.1 / 8 * 8) = 0)) (c_50 : st = 1) (c_57 : ¬ (ym.2.2.2 = 0)) (c_71 : ¬ (lo = 0)) (c_80 : ¬ ((ym.1 - ym.1 / 8 * 8) = 7)) (r_42 : Int32) (hw_43 : r_42 = FX3_bitAt st lo th bm km qm bd ym ym.1) (u_45 : Tk) (hw_44 : u_45 = FX3_goOn st lo th bm km qm bd ym) (i_46 : Int32) (ei_46 : i_46 = nn + 1) (c_125 : r_42 = 1) (f_50 : Int32) (ef_50 : f_50 = u_45.2.2.1 + 1) (c_146 : ¬ (st ≤ 1)) (c_157 : f_50 = st) (c_167 : (u_45.1 - u_45.1 / 8 * 8) = 0) : LX3_skip_20 st lo n th bm km qm bd (u_45.1, u_45.2.1, f_50, u_45.2.2.2) i_46 = LX3_skip_20 st lo (n + 1) th bm km qm bd ym nn := by
  subst hw_43
  subst hw_44
  subst ei_46
  subst ef_50
  exact (((((((((if_neg c_27).trans (if_pos c_50)).trans (if_neg c_57)).trans (if_neg c_71)).trans (if_neg c_80)).trans (if_pos c_125)).trans (if_neg c_146)).trans (if_pos c_157)).trans (if_pos c_167)).symm
set_option maxRecDepth 100000 in
theorem plX3_skip_l20_32 (st : Int32) (lo : Int32) (n : Nat) (th : Int32) (bm : Bm) (km : Rw) (qm : Tk) (bd : Int32) (ym : Tk) (nn : Int32) (c_27 : ¬ ((ym.1 - ym.1 / 8 * 8) = 0)) (c_50 : st = 1) (c_57 : ¬ (ym.2.2.2 = 0)) (c_71 : ¬ (lo = 0)) (c_80 : ¬ ((ym.1 - ym.1 / 8 * 8) = 7)) (r_42 : Int32) (hw_43 : r_42 = FX3_bitAt st lo th bm km qm bd ym ym.1) (u_45 : Tk) (hw_44 : u_45 = FX3_goOn st lo th bm km qm bd ym) (i_46 : Int32) (ei_46 : i_46 = nn + 1) (c_125 : r_42 = 1) (f_50 : Int32) (ef_50 : f_50 = u_45.2.2.1 + 1) (c_146 : ¬ (st ≤ 1)) (c_157 : f_50 = st) (c_167 : ¬ ((u_45.1 - u_45.1 / 8 * 8) = 0)) (f_51 : Int32) (ef_51 : f_51 = u_45.2.1 + 1) (u_53 : Tk) (hw_52 : u_53 = FX3_goOn st lo th bm km qm bd (u_45.1, f_51, f_50, u_45.2.2.2)) : LX3_skip_20 st lo n th bm km qm bd (u_53.1, u_53.2.1, 0, u_53.2.2.2) i_46 = LX3_skip_20 st lo (n + 1) th bm km qm bd ym nn := by
  subst hw_43
  subst hw_44
  subst ei_46
  subst ef_50
  subst ef_51
  subst hw_52
  exact (((((((((if_neg c_27).trans (if_pos c_50)).trans (if_neg c_57)).trans (if_neg c_71)).trans (if_neg c_80)).trans (if_pos c_125)).trans (if_neg c_146)).trans (if_pos c_157)).trans (if_neg c_167)).symm
set_option maxRecDepth 100000 in
theorem plX3_skip_l20_33 (st : Int32) (lo : Int32) (n : Nat) (th : Int32) (bm : Bm) (km : Rw) (qm : Tk) (bd : Int32) (ym : Tk) (nn : Int32) (c_27 : ¬ ((ym.1 - ym.1 / 8 * 8) = 0)) (c_50 : st = 1) (c_57 : ¬ (ym.2.2.2 = 0)) (c_71 : ¬ (lo = 0)) (c_80 : (ym.1 - ym.1 / 8 * 8) = 7) (r_54 : Int32) (hw_55 : r_54 = FX3_bitAt st lo th bm km qm bd ym ym.1) (u_57 : Tk) (hw_56 : u_57 = FX3_goOn st lo th bm km qm bd ym) (f_58 : Int32) (ef_58 : f_58 = u_57.2.1 + 1) : LX3_skip_20 st lo n th bm km qm bd (u_57.1, f_58, u_57.2.2.1, u_57.2.2.2) nn = LX3_skip_20 st lo (n + 1) th bm km qm bd ym nn := by
  subst hw_55
  subst hw_56
  subst ef_58
  exact (((((if_neg c_27).trans (if_pos c_50)).trans (if_neg c_57)).trans (if_neg c_71)).trans (if_pos c_80)).symm
set_option maxRecDepth 100000 in
theorem plX3_skip_l20_34 (st : Int32) (lo : Int32) (n : Nat) (th : Int32) (bm : Bm) (km : Rw) (qm : Tk) (bd : Int32) (ym : Tk) (nn : Int32) (c_27 : (ym.1 - ym.1 / 8 * 8) = 0) (c_35 : ¬ (st = 1)) (c_194 : nn ≤ 0) (u_60 : Tk) (hw_59 : u_60 = FX3_keepTry st lo th bm km qm bd ym) : (nn, th, u_60, ym) = LX3_skip_20 st lo (n + 1) th bm km qm bd ym nn := by
  subst hw_59
  exact (((if_pos c_27).trans (if_neg c_35)).trans (if_pos c_194)).symm
set_option maxRecDepth 100000 in
theorem plX3_skip_l20_35 (st : Int32) (lo : Int32) (n : Nat) (th : Int32) (bm : Bm) (km : Rw) (qm : Tk) (bd : Int32) (ym : Tk) (nn : Int32) (c_27 : (ym.1 - ym.1 / 8 * 8) = 0) (c_35 : ¬ (st = 1)) (c_194 : ¬ (nn ≤ 0)) (u_62 : Tk) (hw_61 : u_62 = FX3_keepTry st lo th bm km qm bd (ym.1, ym.2.1, 0, ym.2.2.2)) : (nn, th, u_62, (ym.1, ym.2.1, 0, ym.2.2.2)) = LX3_skip_20 st lo (n + 1) th bm km qm bd ym nn := by
  subst hw_61
  exact (((if_pos c_27).trans (if_neg c_35)).trans (if_neg c_194)).symm
set_option maxRecDepth 100000 in
theorem plX3_skip_l20_36 (st : Int32) (lo : Int32) (n : Nat) (th : Int32) (bm : Bm) (km : Rw) (qm : Tk) (bd : Int32) (ym : Tk) (nn : Int32) (c_27 : (ym.1 - ym.1 / 8 * 8) = 0) (c_35 : st = 1) (c_42 : ym.2.2.2 = 0) (c_194 : nn ≤ 0) (u_64 : Tk) (hw_63 : u_64 = FX3_keepTry st lo th bm km qm bd ym) : (nn, th, u_64, ym) = LX3_skip_20 st lo (n + 1) th bm km qm bd ym nn := by
  subst hw_63
  exact ((((if_pos c_27).trans (if_pos c_35)).trans (if_pos c_42)).trans (if_pos c_194)).symm
set_option maxRecDepth 100000 in
theorem plX3_skip_l20_37 (st : Int32) (lo : Int32) (n : Nat) (th : Int32) (bm : Bm) (km : Rw) (qm : Tk) (bd : Int32) (ym : Tk) (nn : Int32) (c_27 : (ym.1 - ym.1 / 8 * 8) = 0) (c_35 : st = 1) (c_42 : ym.2.2.2 = 0) (c_194 : ¬ (nn ≤ 0)) (u_66 : Tk) (hw_65 : u_66 = FX3_keepTry st lo th bm km qm bd (ym.1, ym.2.1, 0, ym.2.2.2)) : (nn, th, u_66, (ym.1, ym.2.1, 0, ym.2.2.2)) = LX3_skip_20 st lo (n + 1) th bm km qm bd ym nn := by
  subst hw_65
  exact ((((if_pos c_27).trans (if_pos c_35)).trans (if_pos c_42)).trans (if_neg c_194)).symm
set_option maxRecDepth 100000 in
theorem plX3_skip_l20_38 (st : Int32) (lo : Int32) (n : Nat) (th : Int32) (bm : Bm) (km : Rw) (qm : Tk) (bd : Int32) (ym : Tk) (nn : Int32) (c_27 : (ym.1 - ym.1 / 8 * 8) = 0) (c_35 : st = 1) (c_42 : ¬ (ym.2.2.2 = 0)) (c_50 : ¬ (st = 1)) (r_67 : Int32) (hw_68 : r_67 = FX3_bitAt st lo th bm km qm bd ym ym.1) (u_70 : Tk) (hw_69 : u_70 = FX3_goOn st lo th bm km qm bd ym) (i_71 : Int32) (ei_71 : i_71 = nn + 1) (c_125 : ¬ (r_67 = 1)) (c_146 : st ≤ 1) : LX3_skip_20 st lo n th bm km qm bd (u_70.1, u_70.2.1, 0, u_70.2.2.2) i_71 = LX3_skip_20 st lo (n + 1) th bm km qm bd ym nn := by
  subst hw_68
  subst hw_69
  subst ei_71
  exact ((((((if_pos c_27).trans (if_pos c_35)).trans (if_neg c_42)).trans (if_neg c_50)).trans (if_neg c_125)).trans (if_pos c_146)).symm
set_option maxRecDepth 100000 in
theorem plX3_skip_l20_39 (st : Int32) (lo : Int32) (n : Nat) (th : Int32) (bm : Bm) (km : Rw) (qm : Tk) (bd : Int32) (ym : Tk) (nn : Int32) (c_27 : (ym.1 - ym.1 / 8 * 8) = 0) (c_35 : st = 1) (c_42 : ¬ (ym.2.2.2 = 0)) (c_50 : ¬ (st = 1)) (r_67 : Int32) (hw_68 : r_67 = FX3_bitAt st lo th bm km qm bd ym ym.1) (u_70 : Tk) (hw_69 : u_70 = FX3_goOn st lo th bm km qm bd ym) (i_71 : Int32) (ei_71 : i_71 = nn + 1) (c_125 : ¬ (r_67 = 1)) (c_146 : ¬ (st ≤ 1)) (c_157 : ¬ (0 = st)) : LX3_skip_20 st lo n th bm km qm bd (u_70.1, u_70.2.1, 0, u_70.2.2.2) i_71 = LX3_skip_20 st lo (n + 1) th bm km qm bd ym nn := by
  subst hw_68
  subst hw_69
  subst ei_71
  exact (((((((if_pos c_27).trans (if_pos c_35)).trans (if_neg c_42)).trans (if_neg c_50)).trans (if_neg c_125)).trans (if_neg c_146)).trans (if_neg c_157)).symm
set_option maxRecDepth 100000 in
theorem plX3_skip_l20_40 (st : Int32) (lo : Int32) (n : Nat) (th : Int32) (bm : Bm) (km : Rw) (qm : Tk) (bd : Int32) (ym : Tk) (nn : Int32) (c_27 : (ym.1 - ym.1 / 8 * 8) = 0) (c_35 : st = 1) (c_42 : ¬ (ym.2.2.2 = 0)) (c_50 : ¬ (st = 1)) (r_67 : Int32) (hw_68 : r_67 = FX3_bitAt st lo th bm km qm bd ym ym.1) (u_70 : Tk) (hw_69 : u_70 = FX3_goOn st lo th bm km qm bd ym) (i_71 : Int32) (ei_71 : i_71 = nn + 1) (c_125 : ¬ (r_67 = 1)) (c_146 : ¬ (st ≤ 1)) (c_157 : 0 = st) (c_167 : (u_70.1 - u_70.1 / 8 * 8) = 0) : LX3_skip_20 st lo n th bm km qm bd (u_70.1, u_70.2.1, 0, u_70.2.2.2) i_71 = LX3_skip_20 st lo (n + 1) th bm km qm bd ym nn := by
  subst hw_68
  subst hw_69
  subst ei_71
  exact ((((((((if_pos c_27).trans (if_pos c_35)).trans (if_neg c_42)).trans (if_neg c_50)).trans (if_neg c_125)).trans (if_neg c_146)).trans (if_pos c_157)).trans (if_pos c_167)).symm
set_option maxRecDepth 100000 in
theorem plX3_skip_l20_41 (st : Int32) (lo : Int32) (n : Nat) (th : Int32) (bm : Bm) (km : Rw) (qm : Tk) (bd : Int32) (ym : Tk) (nn : Int32) (c_27 : (ym.1 - ym.1 / 8 * 8) = 0) (c_35 : st = 1) (c_42 : ¬ (ym.2.2.2 = 0)) (c_50 : ¬ (st = 1)) (r_67 : Int32) (hw_68 : r_67 = FX3_bitAt st lo th bm km qm bd ym ym.1) (u_70 : Tk) (hw_69 : u_70 = FX3_goOn st lo th bm km qm bd ym) (i_71 : Int32) (ei_71 : i_71 = nn + 1) (c_125 : ¬ (r_67 = 1)) (c_146 : ¬ (st ≤ 1)) (c_157 : 0 = st) (c_167 : ¬ ((u_70.1 - u_70.1 / 8 * 8) = 0)) (f_72 : Int32) (ef_72 : f_72 = u_70.2.1 + 1) (u_74 : Tk) (hw_73 : u_74 = FX3_goOn st lo th bm km qm bd (u_70.1, f_72, 0, u_70.2.2.2)) : LX3_skip_20 st lo n th bm km qm bd (u_74.1, u_74.2.1, 0, u_74.2.2.2) i_71 = LX3_skip_20 st lo (n + 1) th bm km qm bd ym nn := by
  subst hw_68
  subst hw_69
  subst ei_71
  subst ef_72
  subst hw_73
  exact ((((((((if_pos c_27).trans (if_pos c_35)).trans (if_neg c_42)).trans (if_neg c_50)).trans (if_neg c_125)).trans (if_neg c_146)).trans (if_pos c_157)).trans (if_neg c_167)).symm
set_option maxRecDepth 100000 in
theorem plX3_skip_l20_42 (st : Int32) (lo : Int32) (n : Nat) (th : Int32) (bm : Bm) (km : Rw) (qm : Tk) (bd : Int32) (ym : Tk) (nn : Int32) (c_27 : (ym.1 - ym.1 / 8 * 8) = 0) (c_35 : st = 1) (c_42 : ¬ (ym.2.2.2 = 0)) (c_50 : ¬ (st = 1)) (r_67 : Int32) (hw_68 : r_67 = FX3_bitAt st lo th bm km qm bd ym ym.1) (u_70 : Tk) (hw_69 : u_70 = FX3_goOn st lo th bm km qm bd ym) (i_71 : Int32) (ei_71 : i_71 = nn + 1) (c_125 : r_67 = 1) (f_75 : Int32) (ef_75 : f_75 = u_70.2.2.1 + 1) (c_146 : st ≤ 1) : LX3_skip_20 st lo n th bm km qm bd (u_70.1, u_70.2.1, f_75, u_70.2.2.2) i_71 = LX3_skip_20 st lo (n + 1) th bm km qm bd ym nn := by
  subst hw_68
  subst hw_69
  subst ei_71
  subst ef_75
  exact ((((((if_pos c_27).trans (if_pos c_35)).trans (if_neg c_42)).trans (if_neg c_50)).trans (if_pos c_125)).trans (if_pos c_146)).symm
set_option maxRecDepth 100000 in
theorem plX3_skip_l20_43 (st : Int32) (lo : Int32) (n : Nat) (th : Int32) (bm : Bm) (km : Rw) (qm : Tk) (bd : Int32) (ym : Tk) (nn : Int32) (c_27 : (ym.1 - ym.1 / 8 * 8) = 0) (c_35 : st = 1) (c_42 : ¬ (ym.2.2.2 = 0)) (c_50 : ¬ (st = 1)) (r_67 : Int32) (hw_68 : r_67 = FX3_bitAt st lo th bm km qm bd ym ym.1) (u_70 : Tk) (hw_69 : u_70 = FX3_goOn st lo th bm km qm bd ym) (i_71 : Int32) (ei_71 : i_71 = nn + 1) (c_125 : r_67 = 1) (f_75 : Int32) (ef_75 : f_75 = u_70.2.2.1 + 1) (c_146 : ¬ (st ≤ 1)) (c_157 : ¬ (f_75 = st)) : LX3_skip_20 st lo n th bm km qm bd (u_70.1, u_70.2.1, f_75, u_70.2.2.2) i_71 = LX3_skip_20 st lo (n + 1) th bm km qm bd ym nn := by
  subst hw_68
  subst hw_69
  subst ei_71
  subst ef_75
  exact (((((((if_pos c_27).trans (if_pos c_35)).trans (if_neg c_42)).trans (if_neg c_50)).trans (if_pos c_125)).trans (if_neg c_146)).trans (if_neg c_157)).symm
set_option maxRecDepth 100000 in
theorem plX3_skip_l20_44 (st : Int32) (lo : Int32) (n : Nat) (th : Int32) (bm : Bm) (km : Rw) (qm : Tk) (bd : Int32) (ym : Tk) (nn : Int32) (c_27 : (ym.1 - ym.1 / 8 * 8) = 0) (c_35 : st = 1) (c_42 : ¬ (ym.2.2.2 = 0)) (c_50 : ¬ (st = 1)) (r_67 : Int32) (hw_68 : r_67 = FX3_bitAt st lo th bm km qm bd ym ym.1) (u_70 : Tk) (hw_69 : u_70 = FX3_goOn st lo th bm km qm bd ym) (i_71 : Int32) (ei_71 : i_71 = nn + 1) (c_125 : r_67 = 1) (f_75 : Int32) (ef_75 : f_75 = u_70.2.2.1 + 1) (c_146 : ¬ (st ≤ 1)) (c_157 : f_75 = st) (c_167 : (u_70.1 - u_70.1 / 8 * 8) = 0) : LX3_skip_20 st lo n th bm km qm bd (u_70.1, u_70.2.1, f_75, u_70.2.2.2) i_71 = LX3_skip_20 st lo (n + 1) th bm km qm bd ym nn := by
  subst hw_68
  subst hw_69
  subst ei_71
  subst ef_75
  exact ((((((((if_pos c_27).trans (if_pos c_35)).trans (if_neg c_42)).trans (if_neg c_50)).trans (if_pos c_125)).trans (if_neg c_146)).trans (if_pos c_157)).trans (if_pos c_167)).symm
set_option maxRecDepth 100000 in
theorem plX3_skip_l20_45 (st : Int32) (lo : Int32) (n : Nat) (th : Int32) (bm : Bm) (km : Rw) (qm : Tk) (bd : Int32) (ym : Tk) (nn : Int32) (c_27 : (ym.1 - ym.1 / 8 * 8) = 0) (c_35 : st = 1) (c_42 : ¬ (ym.2.2.2 = 0)) (c_50 : ¬ (st = 1)) (r_67 : Int32) (hw_68 : r_67 = FX3_bitAt st lo th bm km qm bd ym ym.1) (u_70 : Tk) (hw_69 : u_70 = FX3_goOn st lo th bm km qm bd ym) (i_71 : Int32) (ei_71 : i_71 = nn + 1) (c_125 : r_67 = 1) (f_75 : Int32) (ef_75 : f_75 = u_70.2.2.1 + 1) (c_146 : ¬ (st ≤ 1)) (c_157 : f_75 = st) (c_167 : ¬ ((u_70.1 - u_70.1 / 8 * 8) = 0)) (f_76 : Int32) (ef_76 : f_76 = u_70.2.1 + 1) (u_78 : Tk) (hw_77 : u_78 = FX3_goOn st lo th bm km qm bd (u_70.1, f_76, f_75, u_70.2.2.2)) : LX3_skip_20 st lo n th bm km qm bd (u_78.1, u_78.2.1, 0, u_78.2.2.2) i_71 = LX3_skip_20 st lo (n + 1) th bm km qm bd ym nn := by
  subst hw_68
  subst hw_69
  subst ei_71
  subst ef_75
  subst ef_76
  subst hw_77
  exact ((((((((if_pos c_27).trans (if_pos c_35)).trans (if_neg c_42)).trans (if_neg c_50)).trans (if_pos c_125)).trans (if_neg c_146)).trans (if_pos c_157)).trans (if_neg c_167)).symm
set_option maxRecDepth 100000 in
theorem plX3_skip_l20_46 (st : Int32) (lo : Int32) (n : Nat) (th : Int32) (bm : Bm) (km : Rw) (qm : Tk) (bd : Int32) (ym : Tk) (nn : Int32) (c_27 : (ym.1 - ym.1 / 8 * 8) = 0) (c_35 : st = 1) (c_42 : ¬ (ym.2.2.2 = 0)) (c_50 : st = 1) (c_57 : ym.2.2.2 = 0) (r_79 : Int32) (hw_80 : r_79 = FX3_bitAt st lo th bm km qm bd ym ym.1) (u_82 : Tk) (hw_81 : u_82 = FX3_goOn st lo th bm km qm bd ym) (i_83 : Int32) (ei_83 : i_83 = nn + 1) (c_125 : ¬ (r_79 = 1)) (c_146 : st ≤ 1) : LX3_skip_20 st lo n th bm km qm bd (u_82.1, u_82.2.1, 0, u_82.2.2.2) i_83 = LX3_skip_20 st lo (n + 1) th bm km qm bd ym nn := by
  subst hw_80
  subst hw_81
  subst ei_83
  exact (((((((if_pos c_27).trans (if_pos c_35)).trans (if_neg c_42)).trans (if_pos c_50)).trans (if_pos c_57)).trans (if_neg c_125)).trans (if_pos c_146)).symm
set_option maxRecDepth 100000 in
theorem plX3_skip_l20_47 (st : Int32) (lo : Int32) (n : Nat) (th : Int32) (bm : Bm) (km : Rw) (qm : Tk) (bd : Int32) (ym : Tk) (nn : Int32) (c_27 : (ym.1 - ym.1 / 8 * 8) = 0) (c_35 : st = 1) (c_42 : ¬ (ym.2.2.2 = 0)) (c_50 : st = 1) (c_57 : ym.2.2.2 = 0) (r_79 : Int32) (hw_80 : r_79 = FX3_bitAt st lo th bm km qm bd ym ym.1) (u_82 : Tk) (hw_81 : u_82 = FX3_goOn st lo th bm km qm bd ym) (i_83 : Int32) (ei_83 : i_83 = nn + 1) (c_125 : ¬ (r_79 = 1)) (c_146 : ¬ (st ≤ 1)) (c_157 : ¬ (0 = st)) : LX3_skip_20 st lo n th bm km qm bd (u_82.1, u_82.2.1, 0, u_82.2.2.2) i_83 = LX3_skip_20 st lo (n + 1) th bm km qm bd ym nn := by
  subst hw_80
  subst hw_81
  subst ei_83
  exact ((((((((if_pos c_27).trans (if_pos c_35)).trans (if_neg c_42)).trans (if_pos c_50)).trans (if_pos c_57)).trans (if_neg c_125)).trans (if_neg c_146)).trans (if_neg c_157)).symm
set_option maxRecDepth 100000 in
theorem plX3_skip_l20_48 (st : Int32) (lo : Int32) (n : Nat) (th : Int32) (bm : Bm) (km : Rw) (qm : Tk) (bd : Int32) (ym : Tk) (nn : Int32) (c_27 : (ym.1 - ym.1 / 8 * 8) = 0) (c_35 : st = 1) (c_42 : ¬ (ym.2.2.2 = 0)) (c_50 : st = 1) (c_57 : ym.2.2.2 = 0) (r_79 : Int32) (hw_80 : r_79 = FX3_bitAt st lo th bm km qm bd ym ym.1) (u_82 : Tk) (hw_81 : u_82 = FX3_goOn st lo th bm km qm bd ym) (i_83 : Int32) (ei_83 : i_83 = nn + 1) (c_125 : ¬ (r_79 = 1)) (c_146 : ¬ (st ≤ 1)) (c_157 : 0 = st) (c_167 : (u_82.1 - u_82.1 / 8 * 8) = 0) : LX3_skip_20 st lo n th bm km qm bd (u_82.1, u_82.2.1, 0, u_82.2.2.2) i_83 = LX3_skip_20 st lo (n + 1) th bm km qm bd ym nn := by
  subst hw_80
  subst hw_81
  subst ei_83
  exact (((((((((if_pos c_27).trans (if_pos c_35)).trans (if_neg c_42)).trans (if_pos c_50)).trans (if_pos c_57)).trans (if_neg c_125)).trans (if_neg c_146)).trans (if_pos c_157)).trans (if_pos c_167)).symm
set_option maxRecDepth 100000 in
theorem plX3_skip_l20_49 (st : Int32) (lo : Int32) (n : Nat) (th : Int32) (bm : Bm) (km : Rw) (qm : Tk) (bd : Int32) (ym : Tk) (nn : Int32) (c_27 : (ym.1 - ym.1 / 8 * 8) = 0) (c_35 : st = 1) (c_42 : ¬ (ym.2.2.2 = 0)) (c_50 : st = 1) (c_57 : ym.2.2.2 = 0) (r_79 : Int32) (hw_80 : r_79 = FX3_bitAt st lo th bm km qm bd ym ym.1) (u_82 : Tk) (hw_81 : u_82 = FX3_goOn st lo th bm km qm bd ym) (i_83 : Int32) (ei_83 : i_83 = nn + 1) (c_125 : ¬ (r_79 = 1)) (c_146 : ¬ (st ≤ 1)) (c_157 : 0 = st) (c_167 : ¬ ((u_82.1 - u_82.1 / 8 * 8) = 0)) (f_84 : Int32) (ef_84 : f_84 = u_82.2.1 + 1) (u_86 : Tk) (hw_85 : u_86 = FX3_goOn st lo th bm km qm bd (u_82.1, f_84, 0, u_82.2.2.2)) : LX3_skip_20 st lo n th bm km qm bd (u_86.1, u_86.2.1, 0, u_86.2.2.2) i_83 = LX3_skip_20 st lo (n + 1) th bm km qm bd ym nn := by
  subst hw_80
  subst hw_81
  subst ei_83
  subst ef_84
  subst hw_85
  exact (((((((((if_pos c_27).trans (if_pos c_35)).trans (if_neg c_42)).trans (if_pos c_50)).trans (if_pos c_57)).trans (if_neg c_125)).trans (if_neg c_146)).trans (if_pos c_157)).trans (if_neg c_167)).symm
set_option maxRecDepth 100000 in
theorem plX3_skip_l20_50 (st : Int32) (lo : Int32) (n : Nat) (th : Int32) (bm : Bm) (km : Rw) (qm : Tk) (bd : Int32) (ym : Tk) (nn : Int32) (c_27 : (ym.1 - ym.1 / 8 * 8) = 0) (c_35 : st = 1) (c_42 : ¬ (ym.2.2.2 = 0)) (c_50 : st = 1) (c_57 : ym.2.2.2 = 0) (r_79 : Int32) (hw_80 : r_79 = FX3_bitAt st lo th bm km qm bd ym ym.1) (u_82 : Tk) (hw_81 : u_82 = FX3_goOn st lo th bm km qm bd ym) (i_83 : Int32) (ei_83 : i_83 = nn + 1) (c_125 : r_79 = 1) (f_87 : Int32) (ef_87 : f_87 = u_82.2.2.1 + 1) (c_146 : st ≤ 1) : LX3_skip_20 st lo n th bm km qm bd (u_82.1, u_82.2.1, f_87, u_82.2.2.2) i_83 = LX3_skip_20 st lo (n + 1) th bm km qm bd ym nn := by
  subst hw_80
  subst hw_81
  subst ei_83
  subst ef_87
  exact (((((((if_pos c_27).trans (if_pos c_35)).trans (if_neg c_42)).trans (if_pos c_50)).trans (if_pos c_57)).trans (if_pos c_125)).trans (if_pos c_146)).symm
set_option maxRecDepth 100000 in
theorem plX3_skip_l20_51 (st : Int32) (lo : Int32) (n : Nat) (th : Int32) (bm : Bm) (km : Rw) (qm : Tk) (bd : Int32) (ym : Tk) (nn : Int32) (c_27 : (ym.1 - ym.1 / 8 * 8) = 0) (c_35 : st = 1) (c_42 : ¬ (ym.2.2.2 = 0)) (c_50 : st = 1) (c_57 : ym.2.2.2 = 0) (r_79 : Int32) (hw_80 : r_79 = FX3_bitAt st lo th bm km qm bd ym ym.1) (u_82 : Tk) (hw_81 : u_82 = FX3_goOn st lo th bm km qm bd ym) (i_83 : Int32) (ei_83 : i_83 = nn + 1) (c_125 : r_79 = 1) (f_87 : Int32) (ef_87 : f_87 = u_82.2.2.1 + 1) (c_146 : ¬ (st ≤ 1)) (c_157 : ¬ (f_87 = st)) : LX3_skip_20 st lo n th bm km qm bd (u_82.1, u_82.2.1, f_87, u_82.2.2.2) i_83 = LX3_skip_20 st lo (n + 1) th bm km qm bd ym nn := by
  subst hw_80
  subst hw_81
  subst ei_83
  subst ef_87
  exact ((((((((if_pos c_27).trans (if_pos c_35)).trans (if_neg c_42)).trans (if_pos c_50)).trans (if_pos c_57)).trans (if_pos c_125)).trans (if_neg c_146)).trans (if_neg c_157)).symm
set_option maxRecDepth 100000 in
theorem plX3_skip_l20_52 (st : Int32) (lo : Int32) (n : Nat) (th : Int32) (bm : Bm) (km : Rw) (qm : Tk) (bd : Int32) (ym : Tk) (nn : Int32) (c_27 : (ym.1 - ym.1 / 8 * 8) = 0) (c_35 : st = 1) (c_42 : ¬ (ym.2.2.2 = 0)) (c_50 : st = 1) (c_57 : ym.2.2.2 = 0) (r_79 : Int32) (hw_80 : r_79 = FX3_bitAt st lo th bm km qm bd ym ym.1) (u_82 : Tk) (hw_81 : u_82 = FX3_goOn st lo th bm km qm bd ym) (i_83 : Int32) (ei_83 : i_83 = nn + 1) (c_125 : r_79 = 1) (f_87 : Int32) (ef_87 : f_87 = u_82.2.2.1 + 1) (c_146 : ¬ (st ≤ 1)) (c_157 : f_87 = st) (c_167 : (u_82.1 - u_82.1 / 8 * 8) = 0) : LX3_skip_20 st lo n th bm km qm bd (u_82.1, u_82.2.1, f_87, u_82.2.2.2) i_83 = LX3_skip_20 st lo (n + 1) th bm km qm bd ym nn := by
  subst hw_80
  subst hw_81
  subst ei_83
  subst ef_87
  exact (((((((((if_pos c_27).trans (if_pos c_35)).trans (if_neg c_42)).trans (if_pos c_50)).trans (if_pos c_57)).trans (if_pos c_125)).trans (if_neg c_146)).trans (if_pos c_157)).trans (if_pos c_167)).symm
set_option maxRecDepth 100000 in
theorem plX3_skip_l20_53 (st : Int32) (lo : Int32) (n : Nat) (th : Int32) (bm : Bm) (km : Rw) (qm : Tk) (bd : Int32) (ym : Tk) (nn : Int32) (c_27 : (ym.1 - ym.1 / 8 * 8) = 0) (c_35 : st = 1) (c_42 : ¬ (ym.2.2.2 = 0)) (c_50 : st = 1) (c_57 : ym.2.2.2 = 0) (r_79 : Int32) (hw_80 : r_79 = FX3_bitAt st lo th bm km qm bd ym ym.1) (u_82 : Tk) (hw_81 : u_82 = FX3_goOn st lo th bm km qm bd ym) (i_83 : Int32) (ei_83 : i_83 = nn + 1) (c_125 : r_79 = 1) (f_87 : Int32) (ef_87 : f_87 = u_82.2.2.1 + 1) (c_146 : ¬ (st ≤ 1)) (c_157 : f_87 = st) (c_167 : ¬ ((u_82.1 - u_82.1 / 8 * 8) = 0)) (f_88 : Int32) (ef_88 : f_88 = u_82.2.1 + 1) (u_90 : Tk) (hw_89 : u_90 = FX3_goOn st lo th bm km qm bd (u_82.1, f_88, f_87, u_82.2.2.2)) : LX3_skip_20 st lo n th bm km qm bd (u_90.1, u_90.2.1, 0, u_90.2.2.2) i_83 = LX3_skip_20 st lo (n + 1) th bm km qm bd ym nn := by
  subst hw_80
  subst hw_81
  subst ei_83
  subst ef_87
  subst ef_88
  subst hw_89
  exact (((((((((if_pos c_27).trans (if_pos c_35)).trans (if_neg c_42)).trans (if_pos c_50)).trans (if_pos c_57)).trans (if_pos c_125)).trans (if_neg c_146)).trans (if_pos c_157)).trans (if_neg c_167)).symm
set_option maxRecDepth 100000 in
theorem plX3_skip_l20_54 (st : Int32) (lo : Int32) (n : Nat) (th : Int32) (bm : Bm) (km : Rw) (qm : Tk) (bd : Int32) (ym : Tk) (nn : Int32) (c_27 : (ym.1 - ym.1 / 8 * 8) = 0) (c_35 : st = 1) (c_42 : ¬ (ym.2.2.2 = 0)) (c_50 : st = 1) (c_57 : ¬ (ym.2.2.2 = 0)) (c_71 : lo = 0) (c_80 : ¬ ((ym.1 - ym.1 / 8 * 8) = 0)) (r_91 : Int32) (hw_92 : r_91 = FX3_bitAt st lo th bm km qm bd ym ym.1) (u_94 : Tk) (hw_93 : u_94 = FX3_goOn st lo th bm km qm bd ym) (i_95 : Int32) (ei_95 : i_95 = nn + 1) (c_125 : ¬ (r_91 = 1)) (c_146 : st ≤ 1) : LX3_skip_20 st lo n th bm km qm bd (u_94.1, u_94.2.1, 0, u_94.2.2.2) i_95 = LX3_skip_20 st lo (n + 1) th bm km qm bd ym nn := by
  subst hw_92
  subst hw_93
  subst ei_95
  exact (((((((((if_pos c_27).trans (if_pos c_35)).trans (if_neg c_42)).trans (if_pos c_50)).trans (if_neg c_57)).trans (if_pos c_71)).trans (if_neg c_80)).trans (if_neg c_125)).trans (if_pos c_146)).symm
set_option maxRecDepth 100000 in
theorem plX3_skip_l20_55 (st : Int32) (lo : Int32) (n : Nat) (th : Int32) (bm : Bm) (km : Rw) (qm : Tk) (bd : Int32) (ym : Tk) (nn : Int32) (c_27 : (ym.1 - ym.1 / 8 * 8) = 0) (c_35 : st = 1) (c_42 : ¬ (ym.2.2.2 = 0)) (c_50 : st = 1) (c_57 : ¬ (ym.2.2.2 = 0)) (c_71 : lo = 0) (c_80 : ¬ ((ym.1 - ym.1 / 8 * 8) = 0)) (r_91 : Int32) (hw_92 : r_91 = FX3_bitAt st lo th bm km qm bd ym ym.1) (u_94 : Tk) (hw_93 : u_94 = FX3_goOn st lo th bm km qm bd ym) (i_95 : Int32) (ei_95 : i_95 = nn + 1) (c_125 : ¬ (r_91 = 1)) (c_146 : ¬ (st ≤ 1)) (c_157 : ¬ (0 = st)) : LX3_skip_20 st lo n th bm km qm bd (u_94.1, u_94.2.1, 0, u_94.2.2.2) i_95 = LX3_skip_20 st lo (n + 1) th bm km qm bd ym nn := by
  subst hw_92
  subst hw_93
  subst ei_95
  exact ((((((((((if_pos c_27).trans (if_pos c_35)).trans (if_neg c_42)).trans (if_pos c_50)).trans (if_neg c_57)).trans (if_pos c_71)).trans (if_neg c_80)).trans (if_neg c_125)).trans (if_neg c_146)).trans (if_neg c_157)).symm
set_option maxRecDepth 100000 in
theorem plX3_skip_l20_56 (st : Int32) (lo : Int32) (n : Nat) (th : Int32) (bm : Bm) (km : Rw) (qm : Tk) (bd : Int32) (ym : Tk) (nn : Int32) (c_27 : (ym.1 - ym.1 / 8 * 8) = 0) (c_35 : st = 1) (c_42 : ¬ (ym.2.2.2 = 0)) (c_50 : st = 1) (c_57 : ¬ (ym.2.2.2 = 0)) (c_71 : lo = 0) (c_80 : ¬ ((ym.1 - ym.1 / 8 * 8) = 0)) (r_91 : Int32) (hw_92 : r_91 = FX3_bitAt st lo th bm km qm bd ym ym.1) (u_94 : Tk) (hw_93 : u_94 = FX3_goOn st lo th bm km qm bd ym) (i_95 : Int32) (ei_95 : i_95 = nn + 1) (c_125 : ¬ (r_91 = 1)) (c_146 : ¬ (st ≤ 1)) (c_157 : 0 = st) (c_167 : (u_94.1 - u_94.1 / 8 * 8) = 0) : LX3_skip_20 st lo n th bm km qm bd (u_94.1, u_94.2.1, 0, u_94.2.2.2) i_95 = LX3_skip_20 st lo (n + 1) th bm km qm bd ym nn := by
  subst hw_92
  subst hw_93
  subst ei_95
  exact (((((((((((if_pos c_27).trans (if_pos c_35)).trans (if_neg c_42)).trans (if_pos c_50)).trans (if_neg c_57)).trans (if_pos c_71)).trans (if_neg c_80)).trans (if_neg c_125)).trans (if_neg c_146)).trans (if_pos c_157)).trans (if_pos c_167)).symm
set_option maxRecDepth 100000 in
theorem plX3_skip_l20_57 (st : Int32) (lo : Int32) (n : Nat) (th : Int32) (bm : Bm) (km : Rw) (qm : Tk) (bd : Int32) (ym : Tk) (nn : Int32) (c_27 : (ym.1 - ym.1 / 8 * 8) = 0) (c_35 : st = 1) (c_42 : ¬ (ym.2.2.2 = 0)) (c_50 : st = 1) (c_57 : ¬ (ym.2.2.2 = 0)) (c_71 : lo = 0) (c_80 : ¬ ((ym.1 - ym.1 / 8 * 8) = 0)) (r_91 : Int32) (hw_92 : r_91 = FX3_bitAt st lo th bm km qm bd ym ym.1) (u_94 : Tk) (hw_93 : u_94 = FX3_goOn st lo th bm km qm bd ym) (i_95 : Int32) (ei_95 : i_95 = nn + 1) (c_125 : ¬ (r_91 = 1)) (c_146 : ¬ (st ≤ 1)) (c_157 : 0 = st) (c_167 : ¬ ((u_94.1 - u_94.1 / 8 * 8) = 0)) (f_96 : Int32) (ef_96 : f_96 = u_94.2.1 + 1) (u_98 : Tk) (hw_97 : u_98 = FX3_goOn st lo th bm km qm bd (u_94.1, f_96, 0, u_94.2.2.2)) : LX3_skip_20 st lo n th bm km qm bd (u_98.1, u_98.2.1, 0, u_98.2.2.2) i_95 = LX3_skip_20 st lo (n + 1) th bm km qm bd ym nn := by
  subst hw_92
  subst hw_93
  subst ei_95
  subst ef_96
  subst hw_97
  exact (((((((((((if_pos c_27).trans (if_pos c_35)).trans (if_neg c_42)).trans (if_pos c_50)).trans (if_neg c_57)).trans (if_pos c_71)).trans (if_neg c_80)).trans (if_neg c_125)).trans (if_neg c_146)).trans (if_pos c_157)).trans (if_neg c_167)).symm
set_option maxRecDepth 100000 in
theorem plX3_skip_l20_58 (st : Int32) (lo : Int32) (n : Nat) (th : Int32) (bm : Bm) (km : Rw) (qm : Tk) (bd : Int32) (ym : Tk) (nn : Int32) (c_27 : (ym.1 - ym.1 / 8 * 8) = 0) (c_35 : st = 1) (c_42 : ¬ (ym.2.2.2 = 0)) (c_50 : st = 1) (c_57 : ¬ (ym.2.2.2 = 0)) (c_71 : lo = 0) (c_80 : ¬ ((ym.1 - ym.1 / 8 * 8) = 0)) (r_91 : Int32) (hw_92 : r_91 = FX3_bitAt st lo th bm km qm bd ym ym.1) (u_94 : Tk) (hw_93 : u_94 = FX3_goOn st lo th bm km qm bd ym) (i_95 : Int32) (ei_95 : i_95 = nn + 1) (c_125 : r_91 = 1) (f_99 : Int32) (ef_99 : f_99 = u_94.2.2.1 + 1) (c_146 : st ≤ 1) : LX3_skip_20 st lo n th bm km qm bd (u_94.1, u_94.2.1, f_99, u_94.2.2.2) i_95 = LX3_skip_20 st lo (n + 1) th bm km qm bd ym nn := by
  subst hw_92
  subst hw_93
  subst ei_95
  subst ef_99
  exact (((((((((if_pos c_27).trans (if_pos c_35)).trans (if_neg c_42)).trans (if_pos c_50)).trans (if_neg c_57)).trans (if_pos c_71)).trans (if_neg c_80)).trans (if_pos c_125)).trans (if_pos c_146)).symm
set_option maxRecDepth 100000 in
theorem plX3_skip_l20_59 (st : Int32) (lo : Int32) (n : Nat) (th : Int32) (bm : Bm) (km : Rw) (qm : Tk) (bd : Int32) (ym : Tk) (nn : Int32) (c_27 : (ym.1 - ym.1 / 8 * 8) = 0) (c_35 : st = 1) (c_42 : ¬ (ym.2.2.2 = 0)) (c_50 : st = 1) (c_57 : ¬ (ym.2.2.2 = 0)) (c_71 : lo = 0) (c_80 : ¬ ((ym.1 - ym.1 / 8 * 8) = 0)) (r_91 : Int32) (hw_92 : r_91 = FX3_bitAt st lo th bm km qm bd ym ym.1) (u_94 : Tk) (hw_93 : u_94 = FX3_goOn st lo th bm km qm bd ym) (i_95 : Int32) (ei_95 : i_95 = nn + 1) (c_125 : r_91 = 1) (f_99 : Int32) (ef_99 : f_99 = u_94.2.2.1 + 1) (c_146 : ¬ (st ≤ 1)) (c_157 : ¬ (f_99 = st)) : LX3_skip_20 st lo n th bm km qm bd (u_94.1, u_94.2.1, f_99, u_94.2.2.2) i_95 = LX3_skip_20 st lo (n + 1) th bm km qm bd ym nn := by
  subst hw_92
  subst hw_93
  subst ei_95
  subst ef_99
  exact ((((((((((if_pos c_27).trans (if_pos c_35)).trans (if_neg c_42)).trans (if_pos c_50)).trans (if_neg c_57)).trans (if_pos c_71)).trans (if_neg c_80)).trans (if_pos c_125)).trans (if_neg c_146)).trans (if_neg c_157)).symm
set_option maxRecDepth 100000 in
theorem plX3_skip_l20_60 (st : Int32) (lo : Int32) (n : Nat) (th : Int32) (bm : Bm) (km : Rw) (qm : Tk) (bd : Int32) (ym : Tk) (nn : Int32) (c_27 : (ym.1 - ym.1 / 8 * 8) = 0) (c_35 : st = 1) (c_42 : ¬ (ym.2.2.2 = 0)) (c_50 : st = 1) (c_57 : ¬ (ym.2.2.2 = 0)) (c_71 : lo = 0) (c_80 : ¬ ((ym.1 - ym.1 / 8 * 8) = 0)) (r_91 : Int32) (hw_92 : r_91 = FX3_bitAt st lo th bm km qm bd ym ym.1) (u_94 : Tk) (hw_93 : u_94 = FX3_goOn st lo th bm km qm bd ym) (i_95 : Int32) (ei_95 : i_95 = nn + 1) (c_125 : r_91 = 1) (f_99 : Int32) (ef_99 : f_99 = u_94.2.2.1 + 1) (c_146 : ¬ (st ≤ 1)) (c_157 : f_99 = st) (c_167 : (u_94.1 - u_94.1 / 8 * 8) = 0) : LX3_skip_20 st lo n th bm km qm bd (u_94.1, u_94.2.1, f_99, u_94.2.2.2) i_95 = LX3_skip_20 st lo (n + 1) th bm km qm bd ym nn := by
  subst hw_92
  subst hw_93
  subst ei_95
  subst ef_99
  exact (((((((((((if_pos c_27).trans (if_pos c_35)).trans (if_neg c_42)).trans (if_pos c_50)).trans (if_neg c_57)).trans (if_pos c_71)).trans (if_neg c_80)).trans (if_pos c_125)).trans (if_neg c_146)).trans (if_pos c_157)).trans (if_pos c_167)).symm
set_option maxRecDepth 100000 in
theorem plX3_skip_l20_61 (st : Int32) (lo : Int32) (n : Nat) (th : Int32) (bm : Bm) (km : Rw) (qm : Tk) (bd : Int32) (ym : Tk) (nn : Int32) (c_27 : (ym.1 - ym.1 / 8 * 8) = 0) (c_35 : st = 1) (c_42 : ¬ (ym.2.2.2 = 0)) (c_50 : st = 1) (c_57 : ¬ (ym.2.2.2 = 0)) (c_71 : lo = 0) (c_80 : ¬ ((ym.1 - ym.1 / 8 * 8) = 0)) (r_91 : Int32) (hw_92 : r_91 = FX3_bitAt st lo th bm km qm bd ym ym.1) (u_94 : Tk) (hw_93 : u_94 = FX3_goOn st lo th bm km qm bd ym) (i_95 : Int32) (ei_95 : i_95 = nn + 1) (c_125 : r_91 = 1) (f_99 : Int32) (ef_99 : f_99 = u_94.2.2.1 + 1) (c_146 : ¬ (st ≤ 1)) (c_157 : f_99 = st) (c_167 : ¬ ((u_94.1 - u_94.1 / 8 * 8) = 0)) (f_100 : Int32) (ef_100 : f_100 = u_94.2.1 + 1) (u_102 : Tk) (hw_101 : u_102 = FX3_goOn st lo th bm km qm bd (u_94.1, f_100, f_99, u_94.2.2.2)) : LX3_skip_20 st lo n th bm km qm bd (u_102.1, u_102.2.1, 0, u_102.2.2.2) i_95 = LX3_skip_20 st lo (n + 1) th bm km qm bd ym nn := by
  subst hw_92
  subst hw_93
  subst ei_95
  subst ef_99
  subst ef_100
  subst hw_101
  exact (((((((((((if_pos c_27).trans (if_pos c_35)).trans (if_neg c_42)).trans (if_pos c_50)).trans (if_neg c_57)).trans (if_pos c_71)).trans (if_neg c_80)).trans (if_pos c_125)).trans (if_neg c_146)).trans (if_pos c_157)).trans (if_neg c_167)).symm
set_option maxRecDepth 100000 in
theorem plX3_skip_l20_62 (st : Int32) (lo : Int32) (n : Nat) (th : Int32) (bm : Bm) (km : Rw) (qm : Tk) (bd : Int32) (ym : Tk) (nn : Int32) (c_27 : (ym.1 - ym.1 / 8 * 8) = 0) (c_35 : st = 1) (c_42 : ¬ (ym.2.2.2 = 0)) (c_50 : st = 1) (c_57 : ¬ (ym.2.2.2 = 0)) (c_71 : lo = 0) (c_80 : (ym.1 - ym.1 / 8 * 8) = 0) (r_103 : Int32) (hw_104 : r_103 = FX3_bitAt st lo th bm km qm bd ym ym.1) (u_106 : Tk) (hw_105 : u_106 = FX3_goOn st lo th bm km qm bd ym) (f_107 : Int32) (ef_107 : f_107 = u_106.2.1 + 1) : LX3_skip_20 st lo n th bm km qm bd (u_106.1, f_107, u_106.2.2.1, u_106.2.2.2) nn = LX3_skip_20 st lo (n + 1) th bm km qm bd ym nn := by
  subst hw_104
  subst hw_105
  subst ef_107
  exact (((((((if_pos c_27).trans (if_pos c_35)).trans (if_neg c_42)).trans (if_pos c_50)).trans (if_neg c_57)).trans (if_pos c_71)).trans (if_pos c_80)).symm
set_option maxRecDepth 100000 in
theorem plX3_skip_l20_63 (st : Int32) (lo : Int32) (n : Nat) (th : Int32) (bm : Bm) (km : Rw) (qm : Tk) (bd : Int32) (ym : Tk) (nn : Int32) (c_27 : (ym.1 - ym.1 / 8 * 8) = 0) (c_35 : st = 1) (c_42 : ¬ (ym.2.2.2 = 0)) (c_50 : st = 1) (c_57 : ¬ (ym.2.2.2 = 0)) (c_71 : ¬ (lo = 0)) (c_80 : ¬ ((ym.1 - ym.1 / 8 * 8) = 7)) (r_108 : Int32) (hw_109 : r_108 = FX3_bitAt st lo th bm km qm bd ym ym.1) (u_111 : Tk) (hw_110 : u_111 = FX3_goOn st lo th bm km qm bd ym) (i_112 : Int32) (ei_112 : i_112 = nn + 1) (c_125 : ¬ (r_108 = 1)) (c_146 : st ≤ 1) : LX3_skip_20 st lo n th bm km qm bd (u_111.1, u_111.2.1, 0, u_111.2.2.2) i_112 = LX3_skip_20 st lo (n + 1) th bm km qm bd ym nn := by
  subst hw_109
  subst hw_110
  subst ei_112
  exact (((((((((if_pos c_27).trans (if_pos c_35)).trans (if_neg c_42)).trans (if_pos c_50)).trans (if_neg c_57)).trans (if_neg c_71)).trans (if_neg c_80)).trans (if_neg c_125)).trans (if_pos c_146)).symm
set_option maxRecDepth 100000 in
theorem plX3_skip_l20_64 (st : Int32) (lo : Int32) (n : Nat) (th : Int32) (bm : Bm) (km : Rw) (qm : Tk) (bd : Int32) (ym : Tk) (nn : Int32) (c_27 : (ym.1 - ym.1 / 8 * 8) = 0) (c_35 : st = 1) (c_42 : ¬ (ym.2.2.2 = 0)) (c_50 : st = 1) (c_57 : ¬ (ym.2.2.2 = 0)) (c_71 : ¬ (lo = 0)) (c_80 : ¬ ((ym.1 - ym.1 / 8 * 8) = 7)) (r_108 : Int32) (hw_109 : r_108 = FX3_bitAt st lo th bm km qm bd ym ym.1) (u_111 : Tk) (hw_110 : u_111 = FX3_goOn st lo th bm km qm bd ym) (i_112 : Int32) (ei_112 : i_112 = nn + 1) (c_125 : ¬ (r_108 = 1)) (c_146 : ¬ (st ≤ 1)) (c_157 : ¬ (0 = st)) : LX3_skip_20 st lo n th bm km qm bd (u_111.1, u_111.2.1, 0, u_111.2.2.2) i_112 = LX3_skip_20 st lo (n + 1) th bm km qm bd ym nn := by
  subst hw_109
  subst hw_110
  subst ei_112
  exact ((((((((((if_pos c_27).trans (if_pos c_35)).trans (if_neg c_42)).trans (if_pos c_50)).trans (if_neg c_57)).trans (if_neg c_71)).trans (if_neg c_80)).trans (if_neg c_125)).trans (if_neg c_146)).trans (if_neg c_157)).symm
set_option maxRecDepth 100000 in
theorem plX3_skip_l20_65 (st : Int32) (lo : Int32) (n : Nat) (th : Int32) (bm : Bm) (km : Rw) (qm : Tk) (bd : Int32) (ym : Tk) (nn : Int32) (c_27 : (ym.1 - ym.1 / 8 * 8) = 0) (c_35 : st = 1) (c_42 : ¬ (ym.2.2.2 = 0)) (c_50 : st = 1) (c_57 : ¬ (ym.2.2.2 = 0)) (c_71 : ¬ (lo = 0)) (c_80 : ¬ ((ym.1 - ym.1 / 8 * 8) = 7)) (r_108 : Int32) (hw_109 : r_108 = FX3_bitAt st lo th bm km qm bd ym ym.1) (u_111 : Tk) (hw_110 : u_111 = FX3_goOn st lo th bm km qm bd ym) (i_112 : Int32) (ei_112 : i_112 = nn + 1) (c_125 : ¬ (r_108 = 1)) (c_146 : ¬ (st ≤ 1)) (c_157 : 0 = st) (c_167 : (u_111.1 - u_111.1 / 8 * 8) = 0) : LX3_skip_20 st lo n th bm km qm bd (u_111.1, u_111.2.1, 0, u_111.2.2.2) i_112 = LX3_skip_20 st lo (n + 1) th bm km qm bd ym nn := by
  subst hw_109
  subst hw_110
  subst ei_112
  exact (((((((((((if_pos c_27).trans (if_pos c_35)).trans (if_neg c_42)).trans (if_pos c_50)).trans (if_neg c_57)).trans (if_neg c_71)).trans (if_neg c_80)).trans (if_neg c_125)).trans (if_neg c_146)).trans (if_pos c_157)).trans (if_pos c_167)).symm
set_option maxRecDepth 100000 in
theorem plX3_skip_l20_66 (st : Int32) (lo : Int32) (n : Nat) (th : Int32) (bm : Bm) (km : Rw) (qm : Tk) (bd : Int32) (ym : Tk) (nn : Int32) (c_27 : (ym.1 - ym.1 / 8 * 8) = 0) (c_35 : st = 1) (c_42 : ¬ (ym.2.2.2 = 0)) (c_50 : st = 1) (c_57 : ¬ (ym.2.2.2 = 0)) (c_71 : ¬ (lo = 0)) (c_80 : ¬ ((ym.1 - ym.1 / 8 * 8) = 7)) (r_108 : Int32) (hw_109 : r_108 = FX3_bitAt st lo th bm km qm bd ym ym.1) (u_111 : Tk) (hw_110 : u_111 = FX3_goOn st lo th bm km qm bd ym) (i_112 : Int32) (ei_112 : i_112 = nn + 1) (c_125 : ¬ (r_108 = 1)) (c_146 : ¬ (st ≤ 1)) (c_157 : 0 = st) (c_167 : ¬ ((u_111.1 - u_111.1 / 8 * 8) = 0)) (f_113 : Int32) (ef_113 : f_113 = u_111.2.1 + 1) (u_115 : Tk) (hw_114 : u_115 = FX3_goOn st lo th bm km qm bd (u_111.1, f_113, 0, u_111.2.2.2)) : LX3_skip_20 st lo n th bm km qm bd (u_115.1, u_115.2.1, 0, u_115.2.2.2) i_112 = LX3_skip_20 st lo (n + 1) th bm km qm bd ym nn := by
  subst hw_109
  subst hw_110
  subst ei_112
  subst ef_113
  subst hw_114
  exact (((((((((((if_pos c_27).trans (if_pos c_35)).trans (if_neg c_42)).trans (if_pos c_50)).trans (if_neg c_57)).trans (if_neg c_71)).trans (if_neg c_80)).trans (if_neg c_125)).trans (if_neg c_146)).trans (if_pos c_157)).trans (if_neg c_167)).symm
set_option maxRecDepth 100000 in
theorem plX3_skip_l20_67 (st : Int32) (lo : Int32) (n : Nat) (th : Int32) (bm : Bm) (km : Rw) (qm : Tk) (bd : Int32) (ym : Tk) (nn : Int32) (c_27 : (ym.1 - ym.1 / 8 * 8) = 0) (c_35 : st = 1) (c_42 : ¬ (ym.2.2.2 = 0)) (c_50 : st = 1) (c_57 : ¬ (ym.2.2.2 = 0)) (c_71 : ¬ (lo = 0)) (c_80 : ¬ ((ym.1 - ym.1 / 8 * 8) = 7)) (r_108 : Int32) (hw_109 : r_108 = FX3_bitAt st lo th bm km qm bd ym ym.1) (u_111 : Tk) (hw_110 : u_111 = FX3_goOn st lo th bm km qm bd ym) (i_112 : Int32) (ei_112 : i_112 = nn + 1) (c_125 : r_108 = 1) (f_116 : Int32) (ef_116 : f_116 = u_111.2.2.1 + 1) (c_146 : st ≤ 1) : LX3_skip_20 st lo n th bm km qm bd (u_111.1, u_111.2.1, f_116, u_111.2.2.2) i_112 = LX3_skip_20 st lo (n + 1) th bm km qm bd ym nn := by
  subst hw_109
  subst hw_110
  subst ei_112
  subst ef_116
  exact (((((((((if_pos c_27).trans (if_pos c_35)).trans (if_neg c_42)).trans (if_pos c_50)).trans (if_neg c_57)).trans (if_neg c_71)).trans (if_neg c_80)).trans (if_pos c_125)).trans (if_pos c_146)).symm
set_option maxRecDepth 100000 in
theorem plX3_skip_l20_68 (st : Int32) (lo : Int32) (n : Nat) (th : Int32) (bm : Bm) (km : Rw) (qm : Tk) (bd : Int32) (ym : Tk) (nn : Int32) (c_27 : (ym.1 - ym.1 / 8 * 8) = 0) (c_35 : st = 1) (c_42 : ¬ (ym.2.2.2 = 0)) (c_50 : st = 1) (c_57 : ¬ (ym.2.2.2 = 0)) (c_71 : ¬ (lo = 0)) (c_80 : ¬ ((ym.1 - ym.1 / 8 * 8) = 7)) (r_108 : Int32) (hw_109 : r_108 = FX3_bitAt st lo th bm km qm bd ym ym.1) (u_111 : Tk) (hw_110 : u_111 = FX3_goOn st lo th bm km qm bd ym) (i_112 : Int32) (ei_112 : i_112 = nn + 1) (c_125 : r_108 = 1) (f_116 : Int32) (ef_116 : f_116 = u_111.2.2.1 + 1) (c_146 : ¬ (st ≤ 1)) (c_157 : ¬ (f_116 = st)) : LX3_skip_20 st lo n th bm km qm bd (u_111.1, u_111.2.1, f_116, u_111.2.2.2) i_112 = LX3_skip_20 st lo (n + 1) th bm km qm bd ym nn := by
  subst hw_109
  subst hw_110
  subst ei_112
  subst ef_116
  exact ((((((((((if_pos c_27).trans (if_pos c_35)).trans (if_neg c_42)).trans (if_pos c_50)).trans (if_neg c_57)).trans (if_neg c_71)).trans (if_neg c_80)).trans (if_pos c_125)).trans (if_neg c_146)).trans (if_neg c_157)).symm
set_option maxRecDepth 100000 in
theorem plX3_skip_l20_69 (st : Int32) (lo : Int32) (n : Nat) (th : Int32) (bm : Bm) (km : Rw) (qm : Tk) (bd : Int32) (ym : Tk) (nn : Int32) (c_27 : (ym.1 - ym.1 / 8 * 8) = 0) (c_35 : st = 1) (c_42 : ¬ (ym.2.2.2 = 0)) (c_50 : st = 1) (c_57 : ¬ (ym.2.2.2 = 0)) (c_71 : ¬ (lo = 0)) (c_80 : ¬ ((ym.1 - ym.1 / 8 * 8) = 7)) (r_108 : Int32) (hw_109 : r_108 = FX3_bitAt st lo th bm km qm bd ym ym.1) (u_111 : Tk) (hw_110 : u_111 = FX3_goOn st lo th bm km qm bd ym) (i_112 : Int32) (ei_112 : i_112 = nn + 1) (c_125 : r_108 = 1) (f_116 : Int32) (ef_116 : f_116 = u_111.2.2.1 + 1) (c_146 : ¬ (st ≤ 1)) (c_157 : f_116 = st) (c_167 : (u_111.1 - u_111.1 / 8 * 8) = 0) : LX3_skip_20 st lo n th bm km qm bd (u_111.1, u_111.2.1, f_116, u_111.2.2.2) i_112 = LX3_skip_20 st lo (n + 1) th bm km qm bd ym nn := by
  subst hw_109
  subst hw_110
  subst ei_112
  subst ef_116
  exact (((((((((((if_pos c_27).trans (if_pos c_35)).trans (if_neg c_42)).trans (if_pos c_50)).trans (if_neg c_57)).trans (if_neg c_71)).trans (if_neg c_80)).trans (if_pos c_125)).trans (if_neg c_146)).trans (if_pos c_157)).trans (if_pos c_167)).symm
set_option maxRecDepth 100000 in
theorem plX3_skip_l20_70 (st : Int32) (lo : Int32) (n : Nat) (th : Int32) (bm : Bm) (km : Rw) (qm : Tk) (bd : Int32) (ym : Tk) (nn : Int32) (c_27 : (ym.1 - ym.1 / 8 * 8) = 0) (c_35 : st = 1) (c_42 : ¬ (ym.2.2.2 = 0)) (c_50 : st = 1) (c_57 : ¬ (ym.2.2.2 = 0)) (c_71 : ¬ (lo = 0)) (c_80 : ¬ ((ym.1 - ym.1 / 8 * 8) = 7)) (r_108 : Int32) (hw_109 : r_108 = FX3_bitAt st lo th bm km qm bd ym ym.1) (u_111 : Tk) (hw_110 : u_111 = FX3_goOn st lo th bm km qm bd ym) (i_112 : Int32) (ei_112 : i_112 = nn + 1) (c_125 : r_108 = 1) (f_116 : Int32) (ef_116 : f_116 = u_111.2.2.1 + 1) (c_146 : ¬ (st ≤ 1)) (c_157 : f_116 = st) (c_167 : ¬ ((u_111.1 - u_111.1 / 8 * 8) = 0)) (f_117 : Int32) (ef_117 : f_117 = u_111.2.1 + 1) (u_119 : Tk) (hw_118 : u_119 = FX3_goOn st lo th bm km qm bd (u_111.1, f_117, f_116, u_111.2.2.2)) : LX3_skip_20 st lo n th bm km qm bd (u_119.1, u_119.2.1, 0, u_119.2.2.2) i_112 = LX3_skip_20 st lo (n + 1) th bm km qm bd ym nn := by
  subst hw_109
  subst hw_110
  subst ei_112
  subst ef_116
  subst ef_117
  subst hw_118
  exact (((((((((((if_pos c_27).trans (if_pos c_35)).trans (if_neg c_42)).trans (if_pos c_50)).trans (if_neg c_57)).trans (if_neg c_71)).trans (if_neg c_80)).trans (if_pos c_125)).trans (if_neg c_146)).trans (if_pos c_157)).trans (if_neg c_167)).symm
set_option maxRecDepth 100000 in
theorem plX3_skip_l20_71 (st : Int32) (lo : Int32) (n : Nat) (th : Int32) (bm : Bm) (km : Rw) (qm : Tk) (bd : Int32) (ym : Tk) (nn : Int32) (c_27 : (ym.1 - ym.1 / 8 * 8) = 0) (c_35 : st = 1) (c_42 : ¬ (ym.2.2.2 = 0)) (c_50 : st = 1) (c_57 : ¬ (ym.2.2.2 = 0)) (c_71 : ¬ (lo = 0)) (c_80 : (ym.1 - ym.1 / 8 * 8) = 7) (r_120 : Int32) (hw_121 : r_120 = FX3_bitAt st lo th bm km qm bd ym ym.1) (u_123 : Tk) (hw_122 : u_123 = FX3_goOn st lo th bm km qm bd ym) (f_124 : Int32) (ef_124 : f_124 = u_123.2.1 + 1) : LX3_skip_20 st lo n th bm km qm bd (u_123.1, f_124, u_123.2.2.1, u_123.2.2.2) nn = LX3_skip_20 st lo (n + 1) th bm km qm bd ym nn := by
  subst hw_121
  subst hw_122
  subst ef_124
  exact (((((((if_pos c_27).trans (if_pos c_35)).trans (if_neg c_42)).trans (if_pos c_50)).trans (if_neg c_57)).trans (if_neg c_71)).trans (if_pos c_80)).symm
set_option maxRecDepth 100000 in
theorem ssX3_skip_20_1 (st : Int32) (lo : Int32) (th : Int32) (bm : Bm) (km : Rw) (qm : Tk) (bd : Int32) (ym : Tk) (nn : Int32) (c_27 : ¬ ((ym.1 - ym.1 / 8 * 8) = 0)) (c_50 : ¬ (st = 1)) (r_1 : Int32) (hw_2 : r_1 = FX3_bitAt st lo th bm km qm bd ym ym.1) (u_4 : Tk) (hw_3 : u_4 = FX3_goOn st lo th bm km qm bd ym) (i_5 : Int32) (ei_5 : i_5 = nn + 1) (c_125 : ¬ (r_1 = 1)) (c_146 : st ≤ 1) : Sum.inl ((u_4.1, u_4.2.1, 0, u_4.2.2.2), i_5) = SX3_skip_20 st lo th bm km qm bd ym nn := by
  subst hw_2
  subst hw_3
  subst ei_5
  exact ((((if_neg c_27).trans (if_neg c_50)).trans (if_neg c_125)).trans (if_pos c_146)).symm
set_option maxRecDepth 100000 in
theorem ssX3_skip_20_2 (st : Int32) (lo : Int32) (th : Int32) (bm : Bm) (km : Rw) (qm : Tk) (bd : Int32) (ym : Tk) (nn : Int32) (c_27 : ¬ ((ym.1 - ym.1 / 8 * 8) = 0)) (c_50 : ¬ (st = 1)) (r_1 : Int32) (hw_2 : r_1 = FX3_bitAt st lo th bm km qm bd ym ym.1) (u_4 : Tk) (hw_3 : u_4 = FX3_goOn st lo th bm km qm bd ym) (i_5 : Int32) (ei_5 : i_5 = nn + 1) (c_125 : ¬ (r_1 = 1)) (c_146 : ¬ (st ≤ 1)) (c_157 : ¬ (0 = st)) : Sum.inl ((u_4.1, u_4.2.1, 0, u_4.2.2.2), i_5) = SX3_skip_20 st lo th bm km qm bd ym nn := by
  subst hw_2
  subst hw_3
  subst ei_5
  exact (((((if_neg c_27).trans (if_neg c_50)).trans (if_neg c_125)).trans (if_neg c_146)).trans (if_neg c_157)).symm
set_option maxRecDepth 100000 in
theorem ssX3_skip_20_3 (st : Int32) (lo : Int32) (th : Int32) (bm : Bm) (km : Rw) (qm : Tk) (bd : Int32) (ym : Tk) (nn : Int32) (c_27 : ¬ ((ym.1 - ym.1 / 8 * 8) = 0)) (c_50 : ¬ (st = 1)) (r_1 : Int32) (hw_2 : r_1 = FX3_bitAt st lo th bm km qm bd ym ym.1) (u_4 : Tk) (hw_3 : u_4 = FX3_goOn st lo th bm km qm bd ym) (i_5 : Int32) (ei_5 : i_5 = nn + 1) (c_125 : ¬ (r_1 = 1)) (c_146 : ¬ (st ≤ 1)) (c_157 : 0 = st) (c_167 : (u_4.1 - u_4.1 / 8 * 8) = 0) : Sum.inl ((u_4.1, u_4.2.1, 0, u_4.2.2.2), i_5) = SX3_skip_20 st lo th bm km qm bd ym nn := by
  subst hw_2
  subst hw_3
  subst ei_5
  exact ((((((if_neg c_27).trans (if_neg c_50)).trans (if_neg c_125)).trans (if_neg c_146)).trans (if_pos c_157)).trans (if_pos c_167)).symm
set_option maxRecDepth 100000 in
theorem ssX3_skip_20_4 (st : Int32) (lo : Int32) (th : Int32) (bm : Bm) (km : Rw) (qm : Tk) (bd : Int32) (ym : Tk) (nn : Int32) (c_27 : ¬ ((ym.1 - ym.1 / 8 * 8) = 0)) (c_50 : ¬ (st = 1)) (r_1 : Int32) (hw_2 : r_1 = FX3_bitAt st lo th bm km qm bd ym ym.1) (u_4 : Tk) (hw_3 : u_4 = FX3_goOn st lo th bm km qm bd ym) (i_5 : Int32) (ei_5 : i_5 = nn + 1) (c_125 : ¬ (r_1 = 1)) (c_146 : ¬ (st ≤ 1)) (c_157 : 0 = st) (c_167 : ¬ ((u_4.1 - u_4.1 / 8 * 8) = 0)) (f_6 : Int32) (ef_6 : f_6 = u_4.2.1 + 1) (u_8 : Tk) (hw_7 : u_8 = FX3_goOn st lo th bm km qm bd (u_4.1, f_6, 0, u_4.2.2.2)) : Sum.inl ((u_8.1, u_8.2.1, 0, u_8.2.2.2), i_5) = SX3_skip_20 st lo th bm km qm bd ym nn := by
  subst hw_2
  subst hw_3
  subst ei_5
  subst ef_6
  subst hw_7
  exact ((((((if_neg c_27).trans (if_neg c_50)).trans (if_neg c_125)).trans (if_neg c_146)).trans (if_pos c_157)).trans (if_neg c_167)).symm
set_option maxRecDepth 100000 in
theorem ssX3_skip_20_5 (st : Int32) (lo : Int32) (th : Int32) (bm : Bm) (km : Rw) (qm : Tk) (bd : Int32) (ym : Tk) (nn : Int32) (c_27 : ¬ ((ym.1 - ym.1 / 8 * 8) = 0)) (c_50 : ¬ (st = 1)) (r_1 : Int32) (hw_2 : r_1 = FX3_bitAt st lo th bm km qm bd ym ym.1) (u_4 : Tk) (hw_3 : u_4 = FX3_goOn st lo th bm km qm bd ym) (i_5 : Int32) (ei_5 : i_5 = nn + 1) (c_125 : r_1 = 1) (f_9 : Int32) (ef_9 : f_9 = u_4.2.2.1 + 1) (c_146 : st ≤ 1) : Sum.inl ((u_4.1, u_4.2.1, f_9, u_4.2.2.2), i_5) = SX3_skip_20 st lo th bm km qm bd ym nn := by
  subst hw_2
  subst hw_3
  subst ei_5
  subst ef_9
  exact ((((if_neg c_27).trans (if_neg c_50)).trans (if_pos c_125)).trans (if_pos c_146)).symm
set_option maxRecDepth 100000 in
theorem ssX3_skip_20_6 (st : Int32) (lo : Int32) (th : Int32) (bm : Bm) (km : Rw) (qm : Tk) (bd : Int32) (ym : Tk) (nn : Int32) (c_27 : ¬ ((ym.1 - ym.1 / 8 * 8) = 0)) (c_50 : ¬ (st = 1)) (r_1 : Int32) (hw_2 : r_1 = FX3_bitAt st lo th bm km qm bd ym ym.1) (u_4 : Tk) (hw_3 : u_4 = FX3_goOn st lo th bm km qm bd ym) (i_5 : Int32) (ei_5 : i_5 = nn + 1) (c_125 : r_1 = 1) (f_9 : Int32) (ef_9 : f_9 = u_4.2.2.1 + 1) (c_146 : ¬ (st ≤ 1)) (c_157 : ¬ (f_9 = st)) : Sum.inl ((u_4.1, u_4.2.1, f_9, u_4.2.2.2), i_5) = SX3_skip_20 st lo th bm km qm bd ym nn := by
  subst hw_2
  subst hw_3
  subst ei_5
  subst ef_9
  exact (((((if_neg c_27).trans (if_neg c_50)).trans (if_pos c_125)).trans (if_neg c_146)).trans (if_neg c_157)).symm
set_option maxRecDepth 100000 in
theorem ssX3_skip_20_7 (st : Int32) (lo : Int32) (th : Int32) (bm : Bm) (km : Rw) (qm : Tk) (bd : Int32) (ym : Tk) (nn : Int32) (c_27 : ¬ ((ym.1 - ym.1 / 8 * 8) = 0)) (c_50 : ¬ (st = 1)) (r_1 : Int32) (hw_2 : r_1 = FX3_bitAt st lo th bm km qm bd ym ym.1) (u_4 : Tk) (hw_3 : u_4 = FX3_goOn st lo th bm km qm bd ym) (i_5 : Int32) (ei_5 : i_5 = nn + 1) (c_125 : r_1 = 1) (f_9 : Int32) (ef_9 : f_9 = u_4.2.2.1 + 1) (c_146 : ¬ (st ≤ 1)) (c_157 : f_9 = st) (c_167 : (u_4.1 - u_4.1 / 8 * 8) = 0) : Sum.inl ((u_4.1, u_4.2.1, f_9, u_4.2.2.2), i_5) = SX3_skip_20 st lo th bm km qm bd ym nn := by
  subst hw_2
  subst hw_3
  subst ei_5
  subst ef_9
  exact ((((((if_neg c_27).trans (if_neg c_50)).trans (if_pos c_125)).trans (if_neg c_146)).trans (if_pos c_157)).trans (if_pos c_167)).symm
set_option maxRecDepth 100000 in
theorem ssX3_skip_20_8 (st : Int32) (lo : Int32) (th : Int32) (bm : Bm) (km : Rw) (qm : Tk) (bd : Int32) (ym : Tk) (nn : Int32) (c_27 : ¬ ((ym.1 - ym.1 / 8 * 8) = 0)) (c_50 : ¬ (st = 1)) (r_1 : Int32) (hw_2 : r_1 = FX3_bitAt st lo th bm km qm bd ym ym.1) (u_4 : Tk) (hw_3 : u_4 = FX3_goOn st lo th bm km qm bd ym) (i_5 : Int32) (ei_5 : i_5 = nn + 1) (c_125 : r_1 = 1) (f_9 : Int32) (ef_9 : f_9 = u_4.2.2.1 + 1) (c_146 : ¬ (st ≤ 1)) (c_157 : f_9 = st) (c_167 : ¬ ((u_4.1 - u_4.1 / 8 * 8) = 0)) (f_10 : Int32) (ef_10 : f_10 = u_4.2.1 + 1) (u_12 : Tk) (hw_11 : u_12 = FX3_goOn st lo th bm km qm bd (u_4.1, f_10, f_9, u_4.2.2.2)) : Sum.inl ((u_12.1, u_12.2.1, 0, u_12.2.2.2), i_5) = SX3_skip_20 st lo th bm km qm bd ym nn := by
  subst hw_2
  subst hw_3
  subst ei_5
  subst ef_9
  subst ef_10
  subst hw_11
  exact ((((((if_neg c_27).trans (if_neg c_50)).trans (if_pos c_125)).trans (if_neg c_146)).trans (if_pos c_157)).trans (if_neg c_167)).symm
set_option maxRecDepth 100000 in
theorem ssX3_skip_20_9 (st : Int32) (lo : Int32) (th : Int32) (bm : Bm) (km : Rw) (qm : Tk) (bd : Int32) (ym : Tk) (nn : Int32) (c_27 : ¬ ((ym.1 - ym.1 / 8 * 8) = 0)) (c_50 : st = 1) (c_57 : ym.2.2.2 = 0) (r_13 : Int32) (hw_14 : r_13 = FX3_bitAt st lo th bm km qm bd ym ym.1) (u_16 : Tk) (hw_15 : u_16 = FX3_goOn st lo th bm km qm bd ym) (i_17 : Int32) (ei_17 : i_17 = nn + 1) (c_125 : ¬ (r_13 = 1)) (c_146 : st ≤ 1) : Sum.inl ((u_16.1, u_16.2.1, 0, u_16.2.2.2), i_17) = SX3_skip_20 st lo th bm km qm bd ym nn := by
  subst hw_14
  subst hw_15
  subst ei_17
  exact (((((if_neg c_27).trans (if_pos c_50)).trans (if_pos c_57)).trans (if_neg c_125)).trans (if_pos c_146)).symm
set_option maxRecDepth 100000 in
theorem ssX3_skip_20_10 (st : Int32) (lo : Int32) (th : Int32) (bm : Bm) (km : Rw) (qm : Tk) (bd : Int32) (ym : Tk) (nn : Int32) (c_27 : ¬ ((ym.1 - ym.1 / 8 * 8) = 0)) (c_50 : st = 1) (c_57 : ym.2.2.2 = 0) (r_13 : Int32) (hw_14 : r_13 = FX3_bitAt st lo th bm km qm bd ym ym.1) (u_16 : Tk) (hw_15 : u_16 = FX3_goOn st lo th bm km qm bd ym) (i_17 : Int32) (ei_17 : i_17 = nn + 1) (c_125 : ¬ (r_13 = 1)) (c_146 : ¬ (st ≤ 1)) (c_157 : ¬ (0 = st)) : Sum.inl ((u_16.1, u_16.2.1, 0, u_16.2.2.2), i_17) = SX3_skip_20 st lo th bm km qm bd ym nn := by
  subst hw_14
  subst hw_15
  subst ei_17
  exact ((((((if_neg c_27).trans (if_pos c_50)).trans (if_pos c_57)).trans (if_neg c_125)).trans (if_neg c_146)).trans (if_neg c_157)).symm
set_option maxRecDepth 100000 in
theorem ssX3_skip_20_11 (st : Int32) (lo : Int32) (th : Int32) (bm : Bm) (km : Rw) (qm : Tk) (bd : Int32) (ym : Tk) (nn : Int32) (c_27 : ¬ ((ym.1 - ym.1 / 8 * 8) = 0)) (c_50 : st = 1) (c_57 : ym.2.2.2 = 0) (r_13 : Int32) (hw_14 : r_13 = FX3_bitAt st lo th bm km qm bd ym ym.1) (u_16 : Tk) (hw_15 : u_16 = FX3_goOn st lo th bm km qm bd ym) (i_17 : Int32) (ei_17 : i_17 = nn + 1) (c_125 : ¬ (r_13 = 1)) (c_146 : ¬ (st ≤ 1)) (c_157 : 0 = st) (c_167 : (u_16.1 - u_16.1 / 8 * 8) = 0) : Sum.inl ((u_16.1, u_16.2.1, 0, u_16.2.2.2), i_17) = SX3_skip_20 st lo th bm km qm bd ym nn := by
  subst hw_14
  subst hw_15
  subst ei_17
  exact (((((((if_neg c_27).trans (if_pos c_50)).trans (if_pos c_57)).trans (if_neg c_125)).trans (if_neg c_146)).trans (if_pos c_157)).trans (if_pos c_167)).symm
set_option maxRecDepth 100000 in
theorem ssX3_skip_20_12 (st : Int32) (lo : Int32) (th : Int32) (bm : Bm) (km : Rw) (qm : Tk) (bd : Int32) (ym : Tk) (nn : Int32) (c_27 : ¬ ((ym.1 - ym.1 / 8 * 8) = 0)) (c_50 : st = 1) (c_57 : ym.2.2.2 = 0) (r_13 : Int32) (hw_14 : r_13 = FX3_bitAt st lo th bm km qm bd ym ym.1) (u_16 : Tk) (hw_15 : u_16 = FX3_goOn st lo th bm km qm bd ym) (i_17 : Int32) (ei_17 : i_17 = nn + 1) (c_125 : ¬ (r_13 = 1)) (c_146 : ¬ (st ≤ 1)) (c_157 : 0 = st) (c_167 : ¬ ((u_16.1 - u_16.1 / 8 * 8) = 0)) (f_18 : Int32) (ef_18 : f_18 = u_16.2.1 + 1) (u_20 : Tk) (hw_19 : u_20 = FX3_goOn st lo th bm km qm bd (u_16.1, f_18, 0, u_16.2.2.2)) : Sum.inl ((u_20.1, u_20.2.1, 0, u_20.2.2.2), i_17) = SX3_skip_20 st lo th bm km qm bd ym nn := by
  subst hw_14
  subst hw_15
  subst ei_17
  subst ef_18
  subst hw_19
  exact (((((((if_neg c_27).trans (if_pos c_50)).trans (if_pos c_57)).trans (if_neg c_125)).trans (if_neg c_146)).trans (if_pos c_157)).trans (if_neg c_167)).symm
set_option maxRecDepth 100000 in
theorem ssX3_skip_20_13 (st : Int32) (lo : Int32) (th : Int32) (bm : Bm) (km : Rw) (qm : Tk) (bd : Int32) (ym : Tk) (nn : Int32) (c_27 : ¬ ((ym.1 - ym.1 / 8 * 8) = 0)) (c_50 : st = 1) (c_57 : ym.2.2.2 = 0) (r_13 : Int32) (hw_14 : r_13 = FX3_bitAt st lo th bm km qm bd ym ym.1) (u_16 : Tk) (hw_15 : u_16 = FX3_goOn st lo th bm km qm bd ym) (i_17 : Int32) (ei_17 : i_17 = nn + 1) (c_125 : r_13 = 1) (f_21 : Int32) (ef_21 : f_21 = u_16.2.2.1 + 1) (c_146 : st ≤ 1) : Sum.inl ((u_16.1, u_16.2.1, f_21, u_16.2.2.2), i_17) = SX3_skip_20 st lo th bm km qm bd ym nn := by
  subst hw_14
  subst hw_15
  subst ei_17
  subst ef_21
  exact (((((if_neg c_27).trans (if_pos c_50)).trans (if_pos c_57)).trans (if_pos c_125)).trans (if_pos c_146)).symm
set_option maxRecDepth 100000 in
theorem ssX3_skip_20_14 (st : Int32) (lo : Int32) (th : Int32) (bm : Bm) (km : Rw) (qm : Tk) (bd : Int32) (ym : Tk) (nn : Int32) (c_27 : ¬ ((ym.1 - ym.1 / 8 * 8) = 0)) (c_50 : st = 1) (c_57 : ym.2.2.2 = 0) (r_13 : Int32) (hw_14 : r_13 = FX3_bitAt st lo th bm km qm bd ym ym.1) (u_16 : Tk) (hw_15 : u_16 = FX3_goOn st lo th bm km qm bd ym) (i_17 : Int32) (ei_17 : i_17 = nn + 1) (c_125 : r_13 = 1) (f_21 : Int32) (ef_21 : f_21 = u_16.2.2.1 + 1) (c_146 : ¬ (st ≤ 1)) (c_157 : ¬ (f_21 = st)) : Sum.inl ((u_16.1, u_16.2.1, f_21, u_16.2.2.2), i_17) = SX3_skip_20 st lo th bm km qm bd ym nn := by
  subst hw_14
  subst hw_15
  subst ei_17
  subst ef_21
  exact ((((((if_neg c_27).trans (if_pos c_50)).trans (if_pos c_57)).trans (if_pos c_125)).trans (if_neg c_146)).trans (if_neg c_157)).symm
set_option maxRecDepth 100000 in
theorem ssX3_skip_20_15 (st : Int32) (lo : Int32) (th : Int32) (bm : Bm) (km : Rw) (qm : Tk) (bd : Int32) (ym : Tk) (nn : Int32) (c_27 : ¬ ((ym.1 - ym.1 / 8 * 8) = 0)) (c_50 : st = 1) (c_57 : ym.2.2.2 = 0) (r_13 : Int32) (hw_14 : r_13 = FX3_bitAt st lo th bm km qm bd ym ym.1) (u_16 : Tk) (hw_15 : u_16 = FX3_goOn st lo th bm km qm bd ym) (i_17 : Int32) (ei_17 : i_17 = nn + 1) (c_125 : r_13 = 1) (f_21 : Int32) (ef_21 : f_21 = u_16.2.2.1 + 1) (c_146 : ¬ (st ≤ 1)) (c_157 : f_21 = st) (c_167 : (u_16.1 - u_16.1 / 8 * 8) = 0) : Sum.inl ((u_16.1, u_16.2.1, f_21, u_16.2.2.2), i_17) = SX3_skip_20 st lo th bm km qm bd ym nn := by
  subst hw_14
  subst hw_15
  subst ei_17
  subst ef_21
  exact (((((((if_neg c_27).trans (if_pos c_50)).trans (if_pos c_57)).trans (if_pos c_125)).trans (if_neg c_146)).trans (if_pos c_157)).trans (if_pos c_167)).symm
set_option maxRecDepth 100000 in
theorem ssX3_skip_20_16 (st : Int32) (lo : Int32) (th : Int32) (bm : Bm) (km : Rw) (qm : Tk) (bd : Int32) (ym : Tk) (nn : Int32) (c_27 : ¬ ((ym.1 - ym.1 / 8 * 8) = 0)) (c_50 : st = 1) (c_57 : ym.2.2.2 = 0) (r_13 : Int32) (hw_14 : r_13 = FX3_bitAt st lo th bm km qm bd ym ym.1) (u_16 : Tk) (hw_15 : u_16 = FX3_goOn st lo th bm km qm bd ym) (i_17 : Int32) (ei_17 : i_17 = nn + 1) (c_125 : r_13 = 1) (f_21 : Int32) (ef_21 : f_21 = u_16.2.2.1 + 1) (c_146 : ¬ (st ≤ 1)) (c_157 : f_21 = st) (c_167 : ¬ ((u_16.1 - u_16.1 / 8 * 8) = 0)) (f_22 : Int32) (ef_22 : f_22 = u_16.2.1 + 1) (u_24 : Tk) (hw_23 : u_24 = FX3_goOn st lo th bm km qm bd (u_16.1, f_22, f_21, u_16.2.2.2)) : Sum.inl ((u_24.1, u_24.2.1, 0, u_24.2.2.2), i_17) = SX3_skip_20 st lo th bm km qm bd ym nn := by
  subst hw_14
  subst hw_15
  subst ei_17
  subst ef_21
  subst ef_22
  subst hw_23
  exact (((((((if_neg c_27).trans (if_pos c_50)).trans (if_pos c_57)).trans (if_pos c_125)).trans (if_neg c_146)).trans (if_pos c_157)).trans (if_neg c_167)).symm
set_option maxRecDepth 100000 in
theorem ssX3_skip_20_17 (st : Int32) (lo : Int32) (th : Int32) (bm : Bm) (km : Rw) (qm : Tk) (bd : Int32) (ym : Tk) (nn : Int32) (c_27 : ¬ ((ym.1 - ym.1 / 8 * 8) = 0)) (c_50 : st = 1) (c_57 : ¬ (ym.2.2.2 = 0)) (c_71 : lo = 0) (c_80 : ¬ ((ym.1 - ym.1 / 8 * 8) = 0)) (r_25 : Int32) (hw_26 : r_25 = FX3_bitAt st lo th bm km qm bd ym ym.1) (u_28 : Tk) (hw_27 : u_28 = FX3_goOn st lo th bm km qm bd ym) (i_29 : Int32) (ei_29 : i_29 = nn + 1) (c_125 : ¬ (r_25 = 1)) (c_146 : st ≤ 1) : Sum.inl ((u_28.1, u_28.2.1, 0, u_28.2.2.2), i_29) = SX3_skip_20 st lo th bm km qm bd ym nn := by
  subst hw_26
  subst hw_27
  subst ei_29
  exact (((((((if_neg c_27).trans (if_pos c_50)).trans (if_neg c_57)).trans (if_pos c_71)).trans (if_neg c_80)).trans (if_neg c_125)).trans (if_pos c_146)).symm
set_option maxRecDepth 100000 in
theorem ssX3_skip_20_18 (st : Int32) (lo : Int32) (th : Int32) (bm : Bm) (km : Rw) (qm : Tk) (bd : Int32) (ym : Tk) (nn : Int32) (c_27 : ¬ ((ym.1 - ym.1 / 8 * 8) = 0)) (c_50 : st = 1) (c_57 : ¬ (ym.2.2.2 = 0)) (c_71 : lo = 0) (c_80 : ¬ ((ym.1 - ym.1 / 8 * 8) = 0)) (r_25 : Int32) (hw_26 : r_25 = FX3_bitAt st lo th bm km qm bd ym ym.1) (u_28 : Tk) (hw_27 : u_28 = FX3_goOn st lo th bm km qm bd ym) (i_29 : Int32) (ei_29 : i_29 = nn + 1) (c_125 : ¬ (r_25 = 1)) (c_146 : ¬ (st ≤ 1)) (c_157 : ¬ (0 = st)) : Sum.inl ((u_28.1, u_28.2.1, 0, u_28.2.2.2), i_29) = SX3_skip_20 st lo th bm km qm bd ym nn := by
  subst hw_26
  subst hw_27
  subst ei_29
  exact ((((((((if_neg c_27).trans (if_pos c_50)).trans (if_neg c_57)).trans (if_pos c_71)).trans (if_neg c_80)).trans (if_neg c_125)).trans (if_neg c_146)).trans (if_neg c_157)).symm
set_option maxRecDepth 100000 in
theorem ssX3_skip_20_19 (st : Int32) (lo : Int32) (th : Int32) (bm : Bm) (km : Rw) (qm : Tk) (bd : Int32) (ym : Tk) (nn : Int32) (c_27 : ¬ ((ym.1 - ym.1 / 8 * 8) = 0)) (c_50 : st = 1) (c_57 : ¬ (ym.2.2.2 = 0)) (c_71 : lo = 0) (c_80 : ¬ ((ym.1 - ym.1 / 8 * 8) = 0)) (r_25 : Int32) (hw_26 : r_25 = FX3_bitAt st lo th bm km qm bd ym ym.1) (u_28 : Tk) (hw_27 : u_28 = FX3_goOn st lo th bm km qm bd ym) (i_29 : Int32) (ei_29 : i_29 = nn + 1) (c_125 : ¬ (r_25 = 1)) (c_146 : ¬ (st ≤ 1)) (c_157 : 0 = st) (c_167 : (u_28.1 - u_28.1 / 8 * 8) = 0) : Sum.inl ((u_28.1, u_28.2.1, 0, u_28.2.2.2), i_29) = SX3_skip_20 st lo th bm km qm bd ym nn := by
  subst hw_26
  subst hw_27
  subst ei_29
  exact (((((((((if_neg c_27).trans (if_pos c_50)).trans (if_neg c_57)).trans (if_pos c_71)).trans (if_neg c_80)).trans (if_neg c_125)).trans (if_neg c_146)).trans (if_pos c_157)).trans (if_pos c_167)).symm
set_option maxRecDepth 100000 in
theorem ssX3_skip_20_20 (st : Int32) (lo : Int32) (th : Int32) (bm : Bm) (km : Rw) (qm : Tk) (bd : Int32) (ym : Tk) (nn : Int32) (c_27 : ¬ ((ym.1 - ym.1 / 8 * 8) = 0)) (c_50 : st = 1) (c_57 : ¬ (ym.2.2.2 = 0)) (c_71 : lo = 0) (c_80 : ¬ ((ym.1 - ym.1 / 8 * 8) = 0)) (r_25 : Int32) (hw_26 : r_25 = FX3_bitAt st lo th bm km qm bd ym ym.1) (u_28 : Tk) (hw_27 : u_28 = FX3_goOn st lo th bm km qm bd ym) (i_29 : Int32) (ei_29 : i_29 = nn + 1) (c_125 : ¬ (r_25 = 1)) (c_146 : ¬ (st ≤ 1)) (c_157 : 0 = st) (c_167 : ¬ ((u_28.1 - u_28.1 / 8 * 8) = 0)) (f_30 : Int32) (ef_30 : f_30 = u_28.2.1 + 1) (u_32 : Tk) (hw_31 : u_32 = FX3_goOn st lo th bm km qm bd (u_28.1, f_30, 0, u_28.2.2.2)) : Sum.inl ((u_32.1, u_32.2.1, 0, u_32.2.2.2), i_29) = SX3_skip_20 st lo th bm km qm bd ym nn := by
  subst hw_26
  subst hw_27
  subst ei_29
  subst ef_30
  subst hw_31
  exact (((((((((if_neg c_27).trans (if_pos c_50)).trans (if_neg c_57)).trans (if_pos c_71)).trans (if_neg c_80)).trans (if_neg c_125)).trans (if_neg c_146)).trans (if_pos c_157)).trans (if_neg c_167)).symm
set_option maxRecDepth 100000 in
theorem ssX3_skip_20_21 (st : Int32) (lo : Int32) (th : Int32) (bm : Bm) (km : Rw) (qm : Tk) (bd : Int32) (ym : Tk) (nn : Int32) (c_27 : ¬ ((ym.1 - ym.1 / 8 * 8) = 0)) (c_50 : st = 1) (c_57 : ¬ (ym.2.2.2 = 0)) (c_71 : lo = 0) (c_80 : ¬ ((ym.1 - ym.1 / 8 * 8) = 0)) (r_25 : Int32) (hw_26 : r_25 = FX3_bitAt st lo th bm km qm bd ym ym.1) (u_28 : Tk) (hw_27 : u_28 = FX3_goOn st lo th bm km qm bd ym) (i_29 : Int32) (ei_29 : i_29 = nn + 1) (c_125 : r_25 = 1) (f_33 : Int32) (ef_33 : f_33 = u_28.2.2.1 + 1) (c_146 : st ≤ 1) : Sum.inl ((u_28.1, u_28.2.1, f_33, u_28.2.2.2), i_29) = SX3_skip_20 st lo th bm km qm bd ym nn := by
  subst hw_26
  subst hw_27
  subst ei_29
  subst ef_33
  exact (((((((if_neg c_27).trans (if_pos c_50)).trans (if_neg c_57)).trans (if_pos c_71)).trans (if_neg c_80)).trans (if_pos c_125)).trans (if_pos c_146)).symm
set_option maxRecDepth 100000 in
theorem ssX3_skip_20_22 (st : Int32) (lo : Int32) (th : Int32) (bm : Bm) (km : Rw) (qm : Tk) (bd : Int32) (ym : Tk) (nn : Int32) (c_27 : ¬ ((ym.1 - ym.1 / 8 * 8) = 0)) (c_50 : st = 1) (c_57 : ¬ (ym.2.2.2 = 0)) (c_71 : lo = 0) (c_80 : ¬ ((ym.1 - ym.1 / 8 * 8) = 0)) (r_25 : Int32) (hw_26 : r_25 = FX3_bitAt st lo th bm km qm bd ym ym.1) (u_28 : Tk) (hw_27 : u_28 = FX3_goOn st lo th bm km qm bd ym) (i_29 : Int32) (ei_29 : i_29 = nn + 1) (c_125 : r_25 = 1) (f_33 : Int32) (ef_33 : f_33 = u_28.2.2.1 + 1) (c_146 : ¬ (st ≤ 1)) (c_157 : ¬ (f_33 = st)) : Sum.inl ((u_28.1, u_28.2.1, f_33, u_28.2.2.2), i_29) = SX3_skip_20 st lo th bm km qm bd ym nn := by
  subst hw_26
  subst hw_27
  subst ei_29
  subst ef_33
  exact ((((((((if_neg c_27).trans (if_pos c_50)).trans (if_neg c_57)).trans (if_pos c_71)).trans (if_neg c_80)).trans (if_pos c_125)).trans (if_neg c_146)).trans (if_neg c_157)).symm
set_option maxRecDepth 100000 in
theorem ssX3_skip_20_23 (st : Int32) (lo : Int32) (th : Int32) (bm : Bm) (km : Rw) (qm : Tk) (bd : Int32) (ym : Tk) (nn : Int32) (c_27 : ¬ ((ym.1 - ym.1 / 8 * 8) = 0)) (c_50 : st = 1) (c_57 : ¬ (ym.2.2.2 = 0)) (c_71 : lo = 0) (c_80 : ¬ ((ym.1 - ym.1 / 8 * 8) = 0)) (r_25 : Int32) (hw_26 : r_25 = FX3_bitAt st lo th bm km qm bd ym ym.1) (u_28 : Tk) (hw_27 : u_28 = FX3_goOn st lo th bm km qm bd ym) (i_29 : Int32) (ei_29 : i_29 = nn + 1) (c_125 : r_25 = 1) (f_33 : Int32) (ef_33 : f_33 = u_28.2.2.1 + 1) (c_146 : ¬ (st ≤ 1)) (c_157 : f_33 = st) (c_167 : (u_28.1 - u_28.1 / 8 * 8) = 0) : Sum.inl ((u_28.1, u_28.2.1, f_33, u_28.2.2.2), i_29) = SX3_skip_20 st lo th bm km qm bd ym nn := by
  subst hw_26
  subst hw_27
  subst ei_29
  subst ef_33
  exact (((((((((if_neg c_27).trans (if_pos c_50)).trans (if_neg c_57)).trans (if_pos c_71)).trans (if_neg c_80)).trans (if_pos c_125)).trans (if_neg c_146)).trans (if_pos c_157)).trans (if_pos c_167)).symm
set_option maxRecDepth 100000 in
theorem ssX3_skip_20_24 (st : Int32) (lo : Int32) (th : Int32) (bm : Bm) (km : Rw) (qm : Tk) (bd : Int32) (ym : Tk) (nn : Int32) (c_27 : ¬ ((ym.1 - ym.1 / 8 * 8) = 0)) (c_50 : st = 1) (c_57 : ¬ (ym.2.2.2 = 0)) (c_71 : lo = 0) (c_80 : ¬ ((ym.1 - ym.1 / 8 * 8) = 0)) (r_25 : Int32) (hw_26 : r_25 = FX3_bitAt st lo th bm km qm bd ym ym.1) (u_28 : Tk) (hw_27 : u_28 = FX3_goOn st lo th bm km qm bd ym) (i_29 : Int32) (ei_29 : i_29 = nn + 1) (c_125 : r_25 = 1) (f_33 : Int32) (ef_33 : f_33 = u_28.2.2.1 + 1) (c_146 : ¬ (st ≤ 1)) (c_157 : f_33 = st) (c_167 : ¬ ((u_28.1 - u_28.1 / 8 * 8) = 0)) (f_34 : Int32) (ef_34 : f_34 = u_28.2.1 + 1) (u_36 : Tk) (hw_35 : u_36 = FX3_goOn st lo th bm km qm bd (u_28.1, f_34, f_33, u_28.2.2.2)) : Sum.inl ((u_36.1, u_36.2.1, 0, u_36.2.2.2), i_29) = SX3_skip_20 st lo th bm km qm bd ym nn := by
  subst hw_26
  subst hw_27
  subst ei_29
  subst ef_33
  subst ef_34
  subst hw_35
  exact (((((((((if_neg c_27).trans (if_pos c_50)).trans (if_neg c_57)).trans (if_pos c_71)).trans (if_neg c_80)).trans (if_pos c_125)).trans (if_neg c_146)).trans (if_pos c_157)).trans (if_neg c_167)).symm
set_option maxRecDepth 100000 in
theorem ssX3_skip_20_25 (st : Int32) (lo : Int32) (th : Int32) (bm : Bm) (km : Rw) (qm : Tk) (bd : Int32) (ym : Tk) (nn : Int32) (c_27 : ¬ ((ym.1 - ym.1 / 8 * 8) = 0)) (c_50 : st = 1) (c_57 : ¬ (ym.2.2.2 = 0)) (c_71 : lo = 0) (c_80 : (ym.1 - ym.1 / 8 * 8) = 0) (r_37 : Int32) (hw_38 : r_37 = FX3_bitAt st lo th bm km qm bd ym ym.1) (u_40 : Tk) (hw_39 : u_40 = FX3_goOn st lo th bm km qm bd ym) (f_41 : Int32) (ef_41 : f_41 = u_40.2.1 + 1) : Sum.inl ((u_40.1, f_41, u_40.2.2.1, u_40.2.2.2), nn) = SX3_skip_20 st lo th bm km qm bd ym nn := by
  subst hw_38
  subst hw_39
  subst ef_41
  exact (((((if_neg c_27).trans (if_pos c_50)).trans (if_neg c_57)).trans (if_pos c_71)).trans (if_pos c_80)).symm
set_option maxRecDepth 100000 in
theorem ssX3_skip_20_26 (st : Int32) (lo : Int32) (th : Int32) (bm : Bm) (km : Rw) (qm : Tk) (bd : Int32) (ym : Tk) (nn : Int32) (c_27 : ¬ ((ym.1 - ym.1 / 8 * 8) = 0)) (c_50 : st = 1) (c_57 : ¬ (ym.2.2.2 = 0)) (c_71 : ¬ (lo = 0)) (c_80 : ¬ ((ym.1 - ym.1 / 8 * 8) = 7)) (r_42 : Int32) (hw_43 : r_42 = FX3_bitAt st lo th bm km qm bd ym ym.1) (u_45 : Tk) (hw_44 : u_45 = FX3_goOn st lo th bm km qm bd ym) (i_46 : Int32) (ei_46 : i_46 = nn + 1) (c_125 : ¬ (r_42 = 1)) (c_146 : st ≤ 1) : Sum.inl ((u_45.1, u_45.2.1, 0, u_45.2.2.2), i_46) = SX3_skip_20 st lo th bm km qm bd ym nn := by
  subst hw_43
  subst hw_44
  subst ei_46
  exact (((((((if_neg c_27).trans (if_pos c_50)).trans (if_neg c_57)).trans (if_neg c_71)).trans (if_neg c_80)).trans (if_neg c_125)).trans (if_pos c_146)).symm
set_option maxRecDepth 100000 in
theorem ssX3_skip_20_27 (st : Int32) (lo : Int32) (th : Int32) (bm : Bm) (km : Rw) (qm : Tk) (bd : Int32) (ym : Tk) (nn : Int32) (c_27 : ¬ ((ym.1 - ym.1 / 8 * 8) = 0)) (c_50 : st = 1) (c_57 : ¬ (ym.2.2.2 = 0)) (c_71 : ¬ (lo = 0)) (c_80 : ¬ ((ym.1 - ym.1 / 8 * 8) = 7)) (r_42 : Int32) (hw_43 : r_42 = FX3_bitAt st lo th bm km qm bd ym ym.1) (u_45 : Tk) (hw_44 : u_45 = FX3_goOn st lo th bm km qm bd ym) (i_46 : Int32) (ei_46 : i_46 = nn + 1) (c_125 : ¬ (r_42 = 1)) (c_146 : ¬ (st ≤ 1)) (c_157 : ¬ (0 = st)) : Sum.inl ((u_45.1, u_45.2.1, 0, u_45.2.2.2), i_46) = SX3_skip_20 st lo th bm km qm bd ym nn := by
  subst hw_43
  subst hw_44
  subst ei_46
  exact ((((((((if_neg c_27).trans (if_pos c_50)).trans (if_neg c_57)).trans (if_neg c_71)).trans (if_neg c_80)).trans (if_neg c_125)).trans (if_neg c_146)).trans (if_neg c_157)).symm
set_option maxRecDepth 100000 in
theorem ssX3_skip_20_28 (st : Int32) (lo : Int32) (th : Int32) (bm : Bm) (km : Rw) (qm : Tk) (bd : Int32) (ym : Tk) (nn : Int32) (c_27 : ¬ ((ym.1 - ym.1 / 8 * 8) = 0)) (c_50 : st = 1) (c_57 : ¬ (ym.2.2.2 = 0)) (c_71 : ¬ (lo = 0)) (c_80 : ¬ ((ym.1 - ym.1 / 8 * 8) = 7)) (r_42 : Int32) (hw_43 : r_42 = FX3_bitAt st lo th bm km qm bd ym ym.1) (u_45 : Tk) (hw_44 : u_45 = FX3_goOn st lo th bm km qm bd ym) (i_46 : Int32) (ei_46 : i_46 = nn + 1) (c_125 : ¬ (r_42 = 1)) (c_146 : ¬ (st ≤ 1)) (c_157 : 0 = st) (c_167 : (u_45.1 - u_45.1 / 8 * 8) = 0) : Sum.inl ((u_45.1, u_45.2.1, 0, u_45.2.2.2), i_46) = SX3_skip_20 st lo th bm km qm bd ym nn := by
  subst hw_43
  subst hw_44
  subst ei_46
  exact (((((((((if_neg c_27).trans (if_pos c_50)).trans (if_neg c_57)).trans (if_neg c_71)).trans (if_neg c_80)).trans (if_neg c_125)).trans (if_neg c_146)).trans (if_pos c_157)).trans (if_pos c_167)).symm
set_option maxRecDepth 100000 in
theorem ssX3_skip_20_29 (st : Int32) (lo : Int32) (th : Int32) (bm : Bm) (km : Rw) (qm : Tk) (bd : Int32) (ym : Tk) (nn : Int32) (c_27 : ¬ ((ym.1 - ym.1 / 8 * 8) = 0)) (c_50 : st = 1) (c_57 : ¬ (ym.2.2.2 = 0)) (c_71 : ¬ (lo = 0)) (c_80 : ¬ ((ym.1 - ym.1 / 8 * 8) = 7)) (r_42 : Int32) (hw_43 : r_42 = FX3_bitAt st lo th bm km qm bd ym ym.1) (u_45 : Tk) (hw_44 : u_45 = FX3_goOn st lo th bm km qm bd ym) (i_46 : Int32) (ei_46 : i_46 = nn + 1) (c_125 : ¬ (r_42 = 1)) (c_146 : ¬ (st ≤ 1)) (c_157 : 0 = st) (c_167 : ¬ ((u_45.1 - u_45.1 / 8 * 8) = 0)) (f_47 : Int32) (ef_47 : f_47 = u_45.2.1 + 1) (u_49 : Tk) (hw_48 : u_49 = FX3_goOn st lo th bm km qm bd (u_45.1, f_47, 0, u_45.2.2.2)) : Sum.inl ((u_49.1, u_49.2.1, 0, u_49.2.2.2), i_46) = SX3_skip_20 st lo th bm km qm bd ym nn := by
  subst hw_43
  subst hw_44
  subst ei_46
  subst ef_47
  subst hw_48
  exact (((((((((if_neg c_27).trans (if_pos c_50)).trans (if_neg c_57)).trans (if_neg c_71)).trans (if_neg c_80)).trans (if_neg c_125)).trans (if_neg c_146)).trans (if_pos c_157)).trans (if_neg c_167)).symm
set_option maxRecDepth 100000 in
theorem ssX3_skip_20_30 (st : Int32) (lo : Int32) (th : Int32) (bm : Bm) (km : Rw) (qm : Tk) (bd : Int32) (ym : Tk) (nn : Int32) (c_27 : ¬ ((ym.1 - ym.1 / 8 * 8) = 0)) (c_50 : st = 1) (c_57 : ¬ (ym.2.2.2 = 0)) (c_71 : ¬ (lo = 0)) (c_80 : ¬ ((ym.1 - ym.1 / 8 * 8) = 7)) (r_42 : Int32) (hw_43 : r_42 = FX3_bitAt st lo th bm km qm bd ym ym.1) (u_45 : Tk) (hw_44 : u_45 = FX3_goOn st lo th bm km qm bd ym) (i_46 : Int32) (ei_46 : i_46 = nn + 1) (c_125 : r_42 = 1) (f_50 : Int32) (ef_50 : f_50 = u_45.2.2.1 + 1) (c_146 : st ≤ 1) : Sum.inl ((u_45.1, u_45.2.1, f_50, u_45.2.2.2), i_46) = SX3_skip_20 st lo th bm km qm bd ym nn := by
  subst hw_43
  subst hw_44
  subst ei_46
  subst ef_50
  exact (((((((if_neg c_27).trans (if_pos c_50)).trans (if_neg c_57)).trans (if_neg c_71)).trans (if_neg c_80)).trans (if_pos c_125)).trans (if_pos c_146)).symm
set_option maxRecDepth 100000 in
theorem ssX3_skip_20_31 (st : Int32) (lo : Int32) (th : Int32) (bm : Bm) (km : Rw) (qm : Tk) (bd : Int32) (ym : Tk) (nn : Int32) (c_27 : ¬ ((ym.1 - ym.1 / 8 * 8) = 0)) (c_50 : st = 1) (c_57 : ¬ (ym.2.2.2 = 0)) (c_71 : ¬ (lo = 0)) (c_80 : ¬ ((ym.1 - ym.1 / 8 * 8) = 7)) (r_42 : Int32) (hw_43 : r_42 = FX3_bitAt st lo th bm km qm bd ym ym.1) (u_45 : Tk) (hw_44 : u_45 = FX3_goOn st lo th bm km qm bd ym) (i_46 : Int32) (ei_46 : i_46 = nn + 1) (c_125 : r_42 = 1) (f_50 : Int32) (ef_50 : f_50 = u_45.2.2.1 + 1) (c_146 : ¬ (st ≤ 1)) (c_157 : ¬ (f_50 = st)) : Sum.inl ((u_45.1, u_45.2.1, f_50, u_45.2.2.2), i_46) = SX3_skip_20 st lo th bm km qm bd ym nn := by
  subst hw_43
  subst hw_44
  subst ei_46
  subst ef_50
  exact ((((((((if_neg c_27).trans (if_pos c_50)).trans (if_neg c_57)).trans (if_neg c_71)).trans (if_neg c_80)).trans (if_pos c_125)).trans (if_neg c_146)).trans (if_neg c_157)).symm
set_option maxRecDepth 100000 in
theorem ssX3_skip_20_32 (st : Int32) (lo : Int32) (th : Int32) (bm : Bm) (km : Rw) (qm : Tk) (bd : Int32) (ym : Tk) (nn : Int32) (c_27 : ¬ ((ym.1 - ym.1 / 8 * 8) = 0)) (c_50 : st = 1) (c_57 : ¬ (ym.2.2.2 = 0)) (c_71 : ¬ (lo = 0)) (c_80 : ¬ ((ym.1 - ym.1 / 8 * 8) = 7)) (r_42 : Int32) (hw_43 : r_42 = FX3_bitAt st lo th bm km qm bd ym ym.1) (u_45 : Tk) (hw_44 : u_45 = FX3_goOn st lo th bm km qm bd ym) (i_46 : Int32) (ei_46 : i_46 = nn + 1) (c_125 : r_42 = 1) (f_50 : Int32) (ef_50 : f_50 = u_45.2.2.1 + 1) (c_146 : ¬ (st ≤ 1)) (c_157 : f_50 = st) (c_167 : (u_45.1 - u_45.1 / 8 * 8) = 0) : Sum.inl ((u_45.1, u_45.2.1, f_50, u_45.2.2.2), i_46) = SX3_skip_20 st lo th bm km qm bd ym nn := by
  subst hw_43
  subst hw_44
  subst ei_46
  subst ef_50
  exact (((((((((if_neg c_27).trans (if_pos c_50)).trans (if_neg c_57)).trans (if_neg c_71)).trans (if_neg c_80)).trans (if_pos c_125)).trans (if_neg c_146)).trans (if_pos c_157)).trans (if_pos c_167)).symm
set_option maxRecDepth 100000 in
theorem ssX3_skip_20_33 (st : Int32) (lo : Int32) (th : Int32) (bm : Bm) (km : Rw) (qm : Tk) (bd : Int32) (ym : Tk) (nn : Int32) (c_27 : ¬ ((ym.1 - ym.1 / 8 * 8) = 0)) (c_50 : st = 1) (c_57 : ¬ (ym.2.2.2 = 0)) (c_71 : ¬ (lo = 0)) (c_80 : ¬ ((ym.1 - ym.1 / 8 * 8) = 7)) (r_42 : Int32) (hw_43 : r_42 = FX3_bitAt st lo th bm km qm bd ym ym.1) (u_45 : Tk) (hw_44 : u_45 = FX3_goOn st lo th bm km qm bd ym) (i_46 : Int32) (ei_46 : i_46 = nn + 1) (c_125 : r_42 = 1) (f_50 : Int32) (ef_50 : f_50 = u_45.2.2.1 + 1) (c_146 : ¬ (st ≤ 1)) (c_157 : f_50 = st) (c_167 : ¬ ((u_45.1 - u_45.1 / 8 * 8) = 0)) (f_51 : Int32) (ef_51 : f_51 = u_45.2.1 + 1) (u_53 : Tk) (hw_52 : u_53 = FX3_goOn st lo th bm km qm bd (u_45.1, f_51, f_50, u_45.2.2.2)) : Sum.inl ((u_53.1, u_53.2.1, 0, u_53.2.2.2), i_46) = SX3_skip_20 st lo th bm km qm bd ym nn := by
  subst hw_43
  subst hw_44
  subst ei_46
  subst ef_50
  subst ef_51
  subst hw_52
  exact (((((((((if_neg c_27).trans (if_pos c_50)).trans (if_neg c_57)).trans (if_neg c_71)).trans (if_neg c_80)).trans (if_pos c_125)).trans (if_neg c_146)).trans (if_pos c_157)).trans (if_neg c_167)).symm
set_option maxRecDepth 100000 in
theorem ssX3_skip_20_34 (st : Int32) (lo : Int32) (th : Int32) (bm : Bm) (km : Rw) (qm : Tk) (bd : Int32) (ym : Tk) (nn : Int32) (c_27 : ¬ ((ym.1 - ym.1 / 8 * 8) = 0)) (c_50 : st = 1) (c_57 : ¬ (ym.2.2.2 = 0)) (c_71 : ¬ (lo = 0)) (c_80 : (ym.1 - ym.1 / 8 * 8) = 7) (r_54 : Int32) (hw_55 : r_54 = FX3_bitAt st lo th bm km qm bd ym ym.1) (u_57 : Tk) (hw_56 : u_57 = FX3_goOn st lo th bm km qm bd ym) (f_58 : Int32) (ef_58 : f_58 = u_57.2.1 + 1) : Sum.inl ((u_57.1, f_58, u_57.2.2.1, u_57.2.2.2), nn) = SX3_skip_20 st lo th bm km qm bd ym nn := by
  subst hw_55
  subst hw_56
  subst ef_58
  exact (((((if_neg c_27).trans (if_pos c_50)).trans (if_neg c_57)).trans (if_neg c_71)).trans (if_pos c_80)).symm
set_option maxRecDepth 100000 in
theorem ssX3_skip_20_35 (st : Int32) (lo : Int32) (th : Int32) (bm : Bm) (km : Rw) (qm : Tk) (bd : Int32) (ym : Tk) (nn : Int32) (c_27 : (ym.1 - ym.1 / 8 * 8) = 0) (c_35 : st = 1) (c_42 : ¬ (ym.2.2.2 = 0)) (c_50 : ¬ (st = 1)) (r_67 : Int32) (hw_68 : r_67 = FX3_bitAt st lo th bm km qm bd ym ym.1) (u_70 : Tk) (hw_69 : u_70 = FX3_goOn st lo th bm km qm bd ym) (i_71 : Int32) (ei_71 : i_71 = nn + 1) (c_125 : ¬ (r_67 = 1)) (c_146 : st ≤ 1) : Sum.inl ((u_70.1, u_70.2.1, 0, u_70.2.2.2), i_71) = SX3_skip_20 st lo th bm km qm bd ym nn := by
  subst hw_68
  subst hw_69
  subst ei_71
  exact ((((((if_pos c_27).trans (if_pos c_35)).trans (if_neg c_42)).trans (if_neg c_50)).trans (if_neg c_125)).trans (if_pos c_146)).symm
set_option maxRecDepth 100000 in
theorem ssX3_skip_20_36 (st : Int32) (lo : Int32) (th : Int32) (bm : Bm) (km : Rw) (qm : Tk) (bd : Int32) (ym : Tk) (nn : Int32) (c_27 : (ym.1 - ym.1 / 8 * 8) = 0) (c_35 : st = 1) (c_42 : ¬ (ym.2.2.2 = 0)) (c_50 : ¬ (st = 1)) (r_67 : Int32) (hw_68 : r_67 = FX3_bitAt st lo th bm km qm bd ym ym.1) (u_70 : Tk) (hw_69 : u_70 = FX3_goOn st lo th bm km qm bd ym) (i_71 : Int32) (ei_71 : i_71 = nn + 1) (c_125 : ¬ (r_67 = 1)) (c_146 : ¬ (st ≤ 1)) (c_157 : ¬ (0 = st)) : Sum.inl ((u_70.1, u_70.2.1, 0, u_70.2.2.2), i_71) = SX3_skip_20 st lo th bm km qm bd ym nn := by
  subst hw_68
  subst hw_69
  subst ei_71
  exact (((((((if_pos c_27).trans (if_pos c_35)).trans (if_neg c_42)).trans (if_neg c_50)).trans (if_neg c_125)).trans (if_neg c_146)).trans (if_neg c_157)).symm
set_option maxRecDepth 100000 in
theorem ssX3_skip_20_37 (st : Int32) (lo : Int32) (th : Int32) (bm : Bm) (km : Rw) (qm : Tk) (bd : Int32) (ym : Tk) (nn : Int32) (c_27 : (ym.1 - ym.1 / 8 * 8) = 0) (c_35 : st = 1) (c_42 : ¬ (ym.2.2.2 = 0)) (c_50 : ¬ (st = 1)) (r_67 : Int32) (hw_68 : r_67 = FX3_bitAt st lo th bm km qm bd ym ym.1) (u_70 : Tk) (hw_69 : u_70 = FX3_goOn st lo th bm km qm bd ym) (i_71 : Int32) (ei_71 : i_71 = nn + 1) (c_125 : ¬ (r_67 = 1)) (c_146 : ¬ (st ≤ 1)) (c_157 : 0 = st) (c_167 : (u_70.1 - u_70.1 / 8 * 8) = 0) : Sum.inl ((u_70.1, u_70.2.1, 0, u_70.2.2.2), i_71) = SX3_skip_20 st lo th bm km qm bd ym nn := by
  subst hw_68
  subst hw_69
  subst ei_71
  exact ((((((((if_pos c_27).trans (if_pos c_35)).trans (if_neg c_42)).trans (if_neg c_50)).trans (if_neg c_125)).trans (if_neg c_146)).trans (if_pos c_157)).trans (if_pos c_167)).symm
set_option maxRecDepth 100000 in
theorem ssX3_skip_20_38 (st : Int32) (lo : Int32) (th : Int32) (bm : Bm) (km : Rw) (qm : Tk) (bd : Int32) (ym : Tk) (nn : Int32) (c_27 : (ym.1 - ym.1 / 8 * 8) = 0) (c_35 : st = 1) (c_42 : ¬ (ym.2.2.2 = 0)) (c_50 : ¬ (st = 1)) (r_67 : Int32) (hw_68 : r_67 = FX3_bitAt st lo th bm km qm bd ym ym.1) (u_70 : Tk) (hw_69 : u_70 = FX3_goOn st lo th bm km qm bd ym) (i_71 : Int32) (ei_71 : i_71 = nn + 1) (c_125 : ¬ (r_67 = 1)) (c_146 : ¬ (st ≤ 1)) (c_157 : 0 = st) (c_167 : ¬ ((u_70.1 - u_70.1 / 8 * 8) = 0)) (f_72 : Int32) (ef_72 : f_72 = u_70.2.1 + 1) (u_74 : Tk) (hw_73 : u_74 = FX3_goOn st lo th bm km qm bd (u_70.1, f_72, 0, u_70.2.2.2)) : Sum.inl ((u_74.1, u_74.2.1, 0, u_74.2.2.2), i_71) = SX3_skip_20 st lo th bm km qm bd ym nn := by
  subst hw_68
  subst hw_69
  subst ei_71
  subst ef_72
  subst hw_73
  exact ((((((((if_pos c_27).trans (if_pos c_35)).trans (if_neg c_42)).trans (if_neg c_50)).trans (if_neg c_125)).trans (if_neg c_146)).trans (if_pos c_157)).trans (if_neg c_167)).symm
set_option maxRecDepth 100000 in
theorem ssX3_skip_20_39 (st : Int32) (lo : Int32) (th : Int32) (bm : Bm) (km : Rw) (qm : Tk) (bd : Int32) (ym : Tk) (nn : Int32) (c_27 : (ym.1 - ym.1 / 8 * 8) = 0) (c_35 : st = 1) (c_42 : ¬ (ym.2.2.2 = 0)) (c_50 : ¬ (st = 1)) (r_67 : Int32) (hw_68 : r_67 = FX3_bitAt st lo th bm km qm bd ym ym.1) (u_70 : Tk) (hw_69 : u_70 = FX3_goOn st lo th bm km qm bd ym) (i_71 : Int32) (ei_71 : i_71 = nn + 1) (c_125 : r_67 = 1) (f_75 : Int32) (ef_75 : f_75 = u_70.2.2.1 + 1) (c_146 : st ≤ 1) : Sum.inl ((u_70.1, u_70.2.1, f_75, u_70.2.2.2), i_71) = SX3_skip_20 st lo th bm km qm bd ym nn := by
  subst hw_68
  subst hw_69
  subst ei_71
  subst ef_75
  exact ((((((if_pos c_27).trans (if_pos c_35)).trans (if_neg c_42)).trans (if_neg c_50)).trans (if_pos c_125)).trans (if_pos c_146)).symm
set_option maxRecDepth 100000 in
theorem ssX3_skip_20_40 (st : Int32) (lo : Int32) (th : Int32) (bm : Bm) (km : Rw) (qm : Tk) (bd : Int32) (ym : Tk) (nn : Int32) (c_27 : (ym.1 - ym.1 / 8 * 8) = 0) (c_35 : st = 1) (c_42 : ¬ (ym.2.2.2 = 0)) (c_50 : ¬ (st = 1)) (r_67 : Int32) (hw_68 : r_67 = FX3_bitAt st lo th bm km qm bd ym ym.1) (u_70 : Tk) (hw_69 : u_70 = FX3_goOn st lo th bm km qm bd ym) (i_71 : Int32) (ei_71 : i_71 = nn + 1) (c_125 : r_67 = 1) (f_75 : Int32) (ef_75 : f_75 = u_70.2.2.1 + 1) (c_146 : ¬ (st ≤ 1)) (c_157 : ¬ (f_75 = st)) : Sum.inl ((u_70.1, u_70.2.1, f_75, u_70.2.2.2), i_71) = SX3_skip_20 st lo th bm km qm bd ym nn := by
  subst hw_68
  subst hw_69
  subst ei_71
  subst ef_75
  exact (((((((if_pos c_27).trans (if_pos c_35)).trans (if_neg c_42)).trans (if_neg c_50)).trans (if_pos c_125)).trans (if_neg c_146)).trans (if_neg c_157)).symm
set_option maxRecDepth 100000 in
theorem ssX3_skip_20_41 (st : Int32) (lo : Int32) (th : Int32) (bm : Bm) (km : Rw) (qm : Tk) (bd : Int32) (ym : Tk) (nn : Int32) (c_27 : (ym.1 - ym.1 / 8 * 8) = 0) (c_35 : st = 1) (c_42 : ¬ (ym.2.2.2 = 0)) (c_50 : ¬ (st = 1)) (r_67 : Int32) (hw_68 : r_67 = FX3_bitAt st lo th bm km qm bd ym ym.1) (u_70 : Tk) (hw_69 : u_70 = FX3_goOn st lo th bm km qm bd ym) (i_71 : Int32) (ei_71 : i_71 = nn + 1) (c_125 : r_67 = 1) (f_75 : Int32) (ef_75 : f_75 = u_70.2.2.1 + 1) (c_146 : ¬ (st ≤ 1)) (c_157 : f_75 = st) (c_167 : (u_70.1 - u_70.1 / 8 * 8) = 0) : Sum.inl ((u_70.1, u_70.2.1, f_75, u_70.2.2.2), i_71) = SX3_skip_20 st lo th bm km qm bd ym nn := by
  subst hw_68
  subst hw_69
  subst ei_71
  subst ef_75
  exact ((((((((if_pos c_27).trans (if_pos c_35)).trans (if_neg c_42)).trans (if_neg c_50)).trans (if_pos c_125)).trans (if_neg c_146)).trans (if_pos c_157)).trans (if_pos c_167)).symm
set_option maxRecDepth 100000 in
theorem ssX3_skip_20_42 (st : Int32) (lo : Int32) (th : Int32) (bm : Bm) (km : Rw) (qm : Tk) (bd : Int32) (ym : Tk) (nn : Int32) (c_27 : (ym.1 - ym.1 / 8 * 8) = 0) (c_35 : st = 1) (c_42 : ¬ (ym.2.2.2 = 0)) (c_50 : ¬ (st = 1)) (r_67 : Int32) (hw_68 : r_67 = FX3_bitAt st lo th bm km qm bd ym ym.1) (u_70 : Tk) (hw_69 : u_70 = FX3_goOn st lo th bm km qm bd ym) (i_71 : Int32) (ei_71 : i_71 = nn + 1) (c_125 : r_67 = 1) (f_75 : Int32) (ef_75 : f_75 = u_70.2.2.1 + 1) (c_146 : ¬ (st ≤ 1)) (c_157 : f_75 = st) (c_167 : ¬ ((u_70.1 - u_70.1 / 8 * 8) = 0)) (f_76 : Int32) (ef_76 : f_76 = u_70.2.1 + 1) (u_78 : Tk) (hw_77 : u_78 = FX3_goOn st lo th bm km qm bd (u_70.1, f_76, f_75, u_70.2.2.2)) : Sum.inl ((u_78.1, u_78.2.1, 0, u_78.2.2.2), i_71) = SX3_skip_20 st lo th bm km qm bd ym nn := by
  subst hw_68
  subst hw_69
  subst ei_71
  subst ef_75
  subst ef_76
  subst hw_77
  exact ((((((((if_pos c_27).trans (if_pos c_35)).trans (if_neg c_42)).trans (if_neg c_50)).trans (if_pos c_125)).trans (if_neg c_146)).trans (if_pos c_157)).trans (if_neg c_167)).symm
set_option maxRecDepth 100000 in
theorem ssX3_skip_20_43 (st : Int32) (lo : Int32) (th : Int32) (bm : Bm) (km : Rw) (qm : Tk) (bd : Int32) (ym : Tk) (nn : Int32) (c_27 : (ym.1 - ym.1 / 8 * 8) = 0) (c_35 : st = 1) (c_42 : ¬ (ym.2.2.2 = 0)) (c_50 : st = 1) (c_57 : ym.2.2.2 = 0) (r_79 : Int32) (hw_80 : r_79 = FX3_bitAt st lo th bm km qm bd ym ym.1) (u_82 : Tk) (hw_81 : u_82 = FX3_goOn st lo th bm km qm bd ym) (i_83 : Int32) (ei_83 : i_83 = nn + 1) (c_125 : ¬ (r_79 = 1)) (c_146 : st ≤ 1) : Sum.inl ((u_82.1, u_82.2.1, 0, u_82.2.2.2), i_83) = SX3_skip_20 st lo th bm km qm bd ym nn := by
  subst hw_80
  subst hw_81
  subst ei_83
  exact (((((((if_pos c_27).trans (if_pos c_35)).trans (if_neg c_42)).trans (if_pos c_50)).trans (if_pos c_57)).trans (if_neg c_125)).trans (if_pos c_146)).symm
set_option maxRecDepth 100000 in
theorem ssX3_skip_20_44 (st : Int32) (lo : Int32) (th : Int32) (bm : Bm) (km : Rw) (qm : Tk) (bd : Int32) (ym : Tk) (nn : Int32) (c_27 : (ym.1 - ym.1 / 8 * 8) = 0) (c_35 : st = 1) (c_42 : ¬ (ym.2.2.2 = 0)) (c_50 : st = 1) (c_57 : ym.2.2.2 = 0) (r_79 : Int32) (hw_80 : r_79 = FX3_bitAt st lo th bm km qm bd ym ym.1) (u_82 : Tk) (hw_81 : u_82 = FX3_goOn st lo th bm km qm bd ym) (i_83 : Int32) (ei_83 : i_83 = nn + 1) (c_125 : ¬ (r_79 = 1)) (c_146 : ¬ (st ≤ 1)) (c_157 : ¬ (0 = st)) : Sum.inl ((u_82.1, u_82.2.1, 0, u_82.2.2.2), i_83) = SX3_skip_20 st lo th bm km qm bd ym nn := by
  subst hw_80
  subst hw_81
  subst ei_83
  exact ((((((((if_pos c_27).trans (if_pos c_35)).trans (if_neg c_42)).trans (if_pos c_50)).trans (if_pos c_57)).trans (if_neg c_125)).trans (if_neg c_146)).trans (if_neg c_157)).symm
set_option maxRecDepth 100000 in
theorem ssX3_skip_20_45 (st : Int32) (lo : Int32) (th : Int32) (bm : Bm) (km : Rw) (qm : Tk) (bd : Int32) (ym : Tk) (nn : Int32) (c_27 : (ym.1 - ym.1 / 8 * 8) = 0) (c_35 : st = 1) (c_42 : ¬ (ym.2.2.2 = 0)) (c_50 : st = 1) (c_57 : ym.2.2.2 = 0) (r_79 : Int32) (hw_80 : r_79 = FX3_bitAt st lo th bm km qm bd ym ym.1) (u_82 : Tk) (hw_81 : u_82 = FX3_goOn st lo th bm km qm bd ym) (i_83 : Int32) (ei_83 : i_83 = nn + 1) (c_125 : ¬ (r_79 = 1)) (c_146 : ¬ (st ≤ 1)) (c_157 : 0 = st) (c_167 : (u_82.1 - u_82.1 / 8 * 8) = 0) : Sum.inl ((u_82.1, u_82.2.1, 0, u_82.2.2.2), i_83) = SX3_skip_20 st lo th bm km qm bd ym nn := by
  subst hw_80
  subst hw_81
  subst ei_83
  exact (((((((((if_pos c_27).trans (if_pos c_35)).trans (if_neg c_42)).trans (if_pos c_50)).trans (if_pos c_57)).trans (if_neg c_125)).trans (if_neg c_146)).trans (if_pos c_157)).trans (if_pos c_167)).symm
set_option maxRecDepth 100000 in
theorem ssX3_skip_20_46 (st : Int32) (lo : Int32) (th : Int32) (bm : Bm) (km : Rw) (qm : Tk) (bd : Int32) (ym : Tk) (nn : Int32) (c_27 : (ym.1 - ym.1 / 8 * 8) = 0) (c_35 : st = 1) (c_42 : ¬ (ym.2.2.2 = 0)) (c_50 : st = 1) (c_57 : ym.2.2.2 = 0) (r_79 : Int32) (hw_80 : r_79 = FX3_bitAt st lo th bm km qm bd ym ym.1) (u_82 : Tk) (hw_81 : u_82 = FX3_goOn st lo th bm km qm bd ym) (i_83 : Int32) (ei_83 : i_83 = nn + 1) (c_125 : ¬ (r_79 = 1)) (c_146 : ¬ (st ≤ 1)) (c_157 : 0 = st) (c_167 : ¬ ((u_82.1 - u_82.1 / 8 * 8) = 0)) (f_84 : Int32) (ef_84 : f_84 = u_82.2.1 + 1) (u_86 : Tk) (hw_85 : u_86 = FX3_goOn st lo th bm km qm bd (u_82.1, f_84, 0, u_82.2.2.2)) : Sum.inl ((u_86.1, u_86.2.1, 0, u_86.2.2.2), i_83) = SX3_skip_20 st lo th bm km qm bd ym nn := by
  subst hw_80
  subst hw_81
  subst ei_83
  subst ef_84
  subst hw_85
  exact (((((((((if_pos c_27).trans (if_pos c_35)).trans (if_neg c_42)).trans (if_pos c_50)).trans (if_pos c_57)).trans (if_neg c_125)).trans (if_neg c_146)).trans (if_pos c_157)).trans (if_neg c_167)).symm
set_option maxRecDepth 100000 in
theorem ssX3_skip_20_47 (st : Int32) (lo : Int32) (th : Int32) (bm : Bm) (km : Rw) (qm : Tk) (bd : Int32) (ym : Tk) (nn : Int32) (c_27 : (ym.1 - ym.1 / 8 * 8) = 0) (c_35 : st = 1) (c_42 : ¬ (ym.2.2.2 = 0)) (c_50 : st = 1) (c_57 : ym.2.2.2 = 0) (r_79 : Int32) (hw_80 : r_79 = FX3_bitAt st lo th bm km qm bd ym ym.1) (u_82 : Tk) (hw_81 : u_82 = FX3_goOn st lo th bm km qm bd ym) (i_83 : Int32) (ei_83 : i_83 = nn + 1) (c_125 : r_79 = 1) (f_87 : Int32) (ef_87 : f_87 = u_82.2.2.1 + 1) (c_146 : st ≤ 1) : Sum.inl ((u_82.1, u_82.2.1, f_87, u_82.2.2.2), i_83) = SX3_skip_20 st lo th bm km qm bd ym nn := by
  subst hw_80
  subst hw_81
  subst ei_83
  subst ef_87
  exact (((((((if_pos c_27).trans (if_pos c_35)).trans (if_neg c_42)).trans (if_pos c_50)).trans (if_pos c_57)).trans (if_pos c_125)).trans (if_pos c_146)).symm
set_option maxRecDepth 100000 in
theorem ssX3_skip_20_48 (st : Int32) (lo : Int32) (th : Int32) (bm : Bm) (km : Rw) (qm : Tk) (bd : Int32) (ym : Tk) (nn : Int32) (c_27 : (ym.1 - ym.1 / 8 * 8) = 0) (c_35 : st = 1) (c_42 : ¬ (ym.2.2.2 = 0)) (c_50 : st = 1) (c_57 : ym.2.2.2 = 0) (r_79 : Int32) (hw_80 : r_79 = FX3_bitAt st lo th bm km qm bd ym ym.1) (u_82 : Tk) (hw_81 : u_82 = FX3_goOn st lo th bm km qm bd ym) (i_83 : Int32) (ei_83 : i_83 = nn + 1) (c_125 : r_79 = 1) (f_87 : Int32) (ef_87 : f_87 = u_82.2.2.1 + 1) (c_146 : ¬ (st ≤ 1)) (c_157 : ¬ (f_87 = st)) : Sum.inl ((u_82.1, u_82.2.1, f_87, u_82.2.2.2), i_83) = SX3_skip_20 st lo th bm km qm bd ym nn := by
  subst hw_80
  subst hw_81
  subst ei_83
  subst ef_87
  exact ((((((((if_pos c_27).trans (if_pos c_35)).trans (if_neg c_42)).trans (if_pos c_50)).trans (if_pos c_57)).trans (if_pos c_125)).trans (if_neg c_146)).trans (if_neg c_157)).symm
set_option maxRecDepth 100000 in
theorem ssX3_skip_20_49 (st : Int32) (lo : Int32) (th : Int32) (bm : Bm) (km : Rw) (qm : Tk) (bd : Int32) (ym : Tk) (nn : Int32) (c_27 : (ym.1 - ym.1 / 8 * 8) = 0) (c_35 : st = 1) (c_42 : ¬ (ym.2.2.2 = 0)) (c_50 : st = 1) (c_57 : ym.2.2.2 = 0) (r_79 : Int32) (hw_80 : r_79 = FX3_bitAt st lo th bm km qm bd ym ym.1) (u_82 : Tk) (hw_81 : u_82 = FX3_goOn st lo th bm km qm bd ym) (i_83 : Int32) (ei_83 : i_83 = nn + 1) (c_125 : r_79 = 1) (f_87 : Int32) (ef_87 : f_87 = u_82.2.2.1 + 1) (c_146 : ¬ (st ≤ 1)) (c_157 : f_87 = st) (c_167 : (u_82.1 - u_82.1 / 8 * 8) = 0) : Sum.inl ((u_82.1, u_82.2.1, f_87, u_82.2.2.2), i_83) = SX3_skip_20 st lo th bm km qm bd ym nn := by
  subst hw_80
  subst hw_81
  subst ei_83
  subst ef_87
  exact (((((((((if_pos c_27).trans (if_pos c_35)).trans (if_neg c_42)).trans (if_pos c_50)).trans (if_pos c_57)).trans (if_pos c_125)).trans (if_neg c_146)).trans (if_pos c_157)).trans (if_pos c_167)).symm
set_option maxRecDepth 100000 in
theorem ssX3_skip_20_50 (st : Int32) (lo : Int32) (th : Int32) (bm : Bm) (km : Rw) (qm : Tk) (bd : Int32) (ym : Tk) (nn : Int32) (c_27 : (ym.1 - ym.1 / 8 * 8) = 0) (c_35 : st = 1) (c_42 : ¬ (ym.2.2.2 = 0)) (c_50 : st = 1) (c_57 : ym.2.2.2 = 0) (r_79 : Int32) (hw_80 : r_79 = FX3_bitAt st lo th bm km qm bd ym ym.1) (u_82 : Tk) (hw_81 : u_82 = FX3_goOn st lo th bm km qm bd ym) (i_83 : Int32) (ei_83 : i_83 = nn + 1) (c_125 : r_79 = 1) (f_87 : Int32) (ef_87 : f_87 = u_82.2.2.1 + 1) (c_146 : ¬ (st ≤ 1)) (c_157 : f_87 = st) (c_167 : ¬ ((u_82.1 - u_82.1 / 8 * 8) = 0)) (f_88 : Int32) (ef_88 : f_88 = u_82.2.1 + 1) (u_90 : Tk) (hw_89 : u_90 = FX3_goOn st lo th bm km qm bd (u_82.1, f_88, f_87, u_82.2.2.2)) : Sum.inl ((u_90.1, u_90.2.1, 0, u_90.2.2.2), i_83) = SX3_skip_20 st lo th bm km qm bd ym nn := by
  subst hw_80
  subst hw_81
  subst ei_83
  subst ef_87
  subst ef_88
  subst hw_89
  exact (((((((((if_pos c_27).trans (if_pos c_35)).trans (if_neg c_42)).trans (if_pos c_50)).trans (if_pos c_57)).trans (if_pos c_125)).trans (if_neg c_146)).trans (if_pos c_157)).trans (if_neg c_167)).symm
set_option maxRecDepth 100000 in
theorem ssX3_skip_20_51 (st : Int32) (lo : Int32) (th : Int32) (bm : Bm) (km : Rw) (qm : Tk) (bd : Int32) (ym : Tk) (nn : Int32) (c_27 : (ym.1 - ym.1 / 8 * 8) = 0) (c_35 : st = 1) (c_42 : ¬ (ym.2.2.2 = 0)) (c_50 : st = 1) (c_57 : ¬ (ym.2.2.2 = 0)) (c_71 : lo = 0) (c_80 : ¬ ((ym.1 - ym.1 / 8 * 8) = 0)) (r_91 : Int32) (hw_92 : r_91 = FX3_bitAt st lo th bm km qm bd ym ym.1) (u_94 : Tk) (hw_93 : u_94 = FX3_goOn st lo th bm km qm bd ym) (i_95 : Int32) (ei_95 : i_95 = nn + 1) (c_125 : ¬ (r_91 = 1)) (c_146 : st ≤ 1) : Sum.inl ((u_94.1, u_94.2.1, 0, u_94.2.2.2), i_95) = SX3_skip_20 st lo th bm km qm bd ym nn := by
  subst hw_92
  subst hw_93
  subst ei_95
  exact (((((((((if_pos c_27).trans (if_pos c_35)).trans (if_neg c_42)).trans (if_pos c_50)).trans (if_neg c_57)).trans (if_pos c_71)).trans (if_neg c_80)).trans (if_neg c_125)).trans (if_pos c_146)).symm
set_option maxRecDepth 100000 in
theorem ssX3_skip_20_52 (st : Int32) (lo : Int32) (th : Int32) (bm : Bm) (km : Rw) (qm : Tk) (bd : Int32) (ym : Tk) (nn : Int32) (c_27 : (ym.1 - ym.1 / 8 * 8) = 0) (c_35 : st = 1) (c_42 : ¬ (ym.2.2.2 = 0)) (c_50 : st = 1) (c_57 : ¬ (ym.2.2.2 = 0)) (c_71 : lo = 0) (c_80 : ¬ ((ym.1 - ym.1 / 8 * 8) = 0)) (r_91 : Int32) (hw_92 : r_91 = FX3_bitAt st lo th bm km qm bd ym ym.1) (u_94 : Tk) (hw_93 : u_94 = FX3_goOn st lo th bm km qm bd ym) (i_95 : Int32) (ei_95 : i_95 = nn + 1) (c_125 : ¬ (r_91 = 1)) (c_146 : ¬ (st ≤ 1)) (c_157 : ¬ (0 = st)) : Sum.inl ((u_94.1, u_94.2.1, 0, u_94.2.2.2), i_95) = SX3_skip_20 st lo th bm km qm bd ym nn := by
  subst hw_92
  subst hw_93
  subst ei_95
  exact ((((((((((if_pos c_27).trans (if_pos c_35)).trans (if_neg c_42)).trans (if_pos c_50)).trans (if_neg c_57)).trans (if_pos c_71)).trans (if_neg c_80)).trans (if_neg c_125)).trans (if_neg c_146)).trans (if_neg c_157)).symm
set_option maxRecDepth 100000 in
theorem ssX3_skip_20_53 (st : Int32) (lo : Int32) (th : Int32) (bm : Bm) (km : Rw) (qm : Tk) (bd : Int32) (ym : Tk) (nn : Int32) (c_27 : (ym.1 - ym.1 / 8 * 8) = 0) (c_35 : st = 1) (c_42 : ¬ (ym.2.2.2 = 0)) (c_50 : st = 1) (c_57 : ¬ (ym.2.2.2 = 0)) (c_71 : lo = 0) (c_80 : ¬ ((ym.1 - ym.1 / 8 * 8) = 0)) (r_91 : Int32) (hw_92 : r_91 = FX3_bitAt st lo th bm km qm bd ym ym.1) (u_94 : Tk) (hw_93 : u_94 = FX3_goOn st lo th bm km qm bd ym) (i_95 : Int32) (ei_95 : i_95 = nn + 1) (c_125 : ¬ (r_91 = 1)) (c_146 : ¬ (st ≤ 1)) (c_157 : 0 = st) (c_167 : (u_94.1 - u_94.1 / 8 * 8) = 0) : Sum.inl ((u_94.1, u_94.2.1, 0, u_94.2.2.2), i_95) = SX3_skip_20 st lo th bm km qm bd ym nn := by
  subst hw_92
  subst hw_93
  subst ei_95
  exact (((((((((((if_pos c_27).trans (if_pos c_35)).trans (if_neg c_42)).trans (if_pos c_50)).trans (if_neg c_57)).trans (if_pos c_71)).trans (if_neg c_80)).trans (if_neg c_125)).trans (if_neg c_146)).trans (if_pos c_157)).trans (if_pos c_167)).symm
set_option maxRecDepth 100000 in
theorem ssX3_skip_20_54 (st : Int32) (lo : Int32) (th : Int32) (bm : Bm) (km : Rw) (qm : Tk) (bd : Int32) (ym : Tk) (nn : Int32) (c_27 : (ym.1 - ym.1 / 8 * 8) = 0) (c_35 : st = 1) (c_42 : ¬ (ym.2.2.2 = 0)) (c_50 : st = 1) (c_57 : ¬ (ym.2.2.2 = 0)) (c_71 : lo = 0) (c_80 : ¬ ((ym.1 - ym.1 / 8 * 8) = 0)) (r_91 : Int32) (hw_92 : r_91 = FX3_bitAt st lo th bm km qm bd ym ym.1) (u_94 : Tk) (hw_93 : u_94 = FX3_goOn st lo th bm km qm bd ym) (i_95 : Int32) (ei_95 : i_95 = nn + 1) (c_125 : ¬ (r_91 = 1)) (c_146 : ¬ (st ≤ 1)) (c_157 : 0 = st) (c_167 : ¬ ((u_94.1 - u_94.1 / 8 * 8) = 0)) (f_96 : Int32) (ef_96 : f_96 = u_94.2.1 + 1) (u_98 : Tk) (hw_97 : u_98 = FX3_goOn st lo th bm km qm bd (u_94.1, f_96, 0, u_94.2.2.2)) : Sum.inl ((u_98.1, u_98.2.1, 0, u_98.2.2.2), i_95) = SX3_skip_20 st lo th bm km qm bd ym nn := by
  subst hw_92
  subst hw_93
  subst ei_95
  subst ef_96
  subst hw_97
  exact (((((((((((if_pos c_27).trans (if_pos c_35)).trans (if_neg c_42)).trans (if_pos c_50)).trans (if_neg c_57)).trans (if_pos c_71)).trans (if_neg c_80)).trans (if_neg c_125)).trans (if_neg c_146)).trans (if_pos c_157)).trans (if_neg c_167)).symm
set_option maxRecDepth 100000 in
theorem ssX3_skip_20_55 (st : Int32) (lo : Int32) (th : Int32) (bm : Bm) (km : Rw) (qm : Tk) (bd : Int32) (ym : Tk) (nn : Int32) (c_27 : (ym.1 - ym.1 / 8 * 8) = 0) (c_35 : st = 1) (c_42 : ¬ (ym.2.2.2 = 0)) (c_50 : st = 1) (c_57 : ¬ (ym.2.2.2 = 0)) (c_71 : lo = 0) (c_80 : ¬ ((ym.1 - ym.1 / 8 * 8) = 0)) (r_91 : Int32) (hw_92 : r_91 = FX3_bitAt st lo th bm km qm bd ym ym.1) (u_94 : Tk) (hw_93 : u_94 = FX3_goOn st lo th bm km qm bd ym) (i_95 : Int32) (ei_95 : i_95 = nn + 1) (c_125 : r_91 = 1) (f_99 : Int32) (ef_99 : f_99 = u_94.2.2.1 + 1) (c_146 : st ≤ 1) : Sum.inl ((u_94.1, u_94.2.1, f_99, u_94.2.2.2), i_95) = SX3_skip_20 st lo th bm km qm bd ym nn := by
  subst hw_92
  subst hw_93
  subst ei_95
  subst ef_99
  exact (((((((((if_pos c_27).trans (if_pos c_35)).trans (if_neg c_42)).trans (if_pos c_50)).trans (if_neg c_57)).trans (if_pos c_71)).trans (if_neg c_80)).trans (if_pos c_125)).trans (if_pos c_146)).symm
set_option maxRecDepth 100000 in
theorem ssX3_skip_20_56 (st : Int32) (lo : Int32) (th : Int32) (bm : Bm) (km : Rw) (qm : Tk) (bd : Int32) (ym : Tk) (nn : Int32) (c_27 : (ym.1 - ym.1 / 8 * 8) = 0) (c_35 : st = 1) (c_42 : ¬ (ym.2.2.2 = 0)) (c_50 : st = 1) (c_57 : ¬ (ym.2.2.2 = 0)) (c_71 : lo = 0) (c_80 : ¬ ((ym.1 - ym.1 / 8 * 8) = 0)) (r_91 : Int32) (hw_92 : r_91 = FX3_bitAt st lo th bm km qm bd ym ym.1) (u_94 : Tk) (hw_93 : u_94 = FX3_goOn st lo th bm km qm bd ym) (i_95 : Int32) (ei_95 : i_95 = nn + 1) (c_125 : r_91 = 1) (f_99 : Int32) (ef_99 : f_99 = u_94.2.2.1 + 1) (c_146 : ¬ (st ≤ 1)) (c_157 : ¬ (f_99 = st)) : Sum.inl ((u_94.1, u_94.2.1, f_99, u_94.2.2.2), i_95) = SX3_skip_20 st lo th bm km qm bd ym nn := by
  subst hw_92
  subst hw_93
  subst ei_95
  subst ef_99
  exact ((((((((((if_pos c_27).trans (if_pos c_35)).trans (if_neg c_42)).trans (if_pos c_50)).trans (if_neg c_57)).trans (if_pos c_71)).trans (if_neg c_80)).trans (if_pos c_125)).trans (if_neg c_146)).trans (if_neg c_157)).symm
set_option maxRecDepth 100000 in
theorem ssX3_skip_20_57 (st : Int32) (lo : Int32) (th : Int32) (bm : Bm) (km : Rw) (qm : Tk) (bd : Int32) (ym : Tk) (nn : Int32) (c_27 : (ym.1 - ym.1 / 8 * 8) = 0) (c_35 : st = 1) (c_42 : ¬ (ym.2.2.2 = 0)) (c_50 : st = 1) (c_57 : ¬ (ym.2.2.2 = 0)) (c_71 : lo = 0) (c_80 : ¬ ((ym.1 - ym.1 / 8 * 8) = 0)) (r_91 : Int32) (hw_92 : r_91 = FX3_bitAt st lo th bm km qm bd ym ym.1) (u_94 : Tk) (hw_93 : u_94 = FX3_goOn st lo th bm km qm bd ym) (i_95 : Int32) (ei_95 : i_95 = nn + 1) (c_125 : r_91 = 1) (f_99 : Int32) (ef_99 : f_99 = u_94.2.2.1 + 1) (c_146 : ¬ (st ≤ 1)) (c_157 : f_99 = st) (c_167 : (u_94.1 - u_94.1 / 8 * 8) = 0) : Sum.inl ((u_94.1, u_94.2.1, f_99, u_94.2.2.2), i_95) = SX3_skip_20 st lo th bm km qm bd ym nn := by
  subst hw_92
  subst hw_93
  subst ei_95
  subst ef_99
  exact (((((((((((if_pos c_27).trans (if_pos c_35)).trans (if_neg c_42)).trans (if_pos c_50)).trans (if_neg c_57)).trans (if_pos c_71)).trans (if_neg c_80)).trans (if_pos c_125)).trans (if_neg c_146)).trans (if_pos c_157)).trans (if_pos c_167)).symm
set_option maxRecDepth 100000 in
theorem ssX3_skip_20_58 (st : Int32) (lo : Int32) (th : Int32) (bm : Bm) (km : Rw) (qm : Tk) (bd : Int32) (ym : Tk) (nn : Int32) (c_27 : (ym.1 - ym.1 / 8 * 8) = 0) (c_35 : st = 1) (c_42 : ¬ (ym.2.2.2 = 0)) (c_50 : st = 1) (c_57 : ¬ (ym.2.2.2 = 0)) (c_71 : lo = 0) (c_80 : ¬ ((ym.1 - ym.1 / 8 * 8) = 0)) (r_91 : Int32) (hw_92 : r_91 = FX3_bitAt st lo th bm km qm bd ym ym.1) (u_94 : Tk) (hw_93 : u_94 = FX3_goOn st lo th bm km qm bd ym) (i_95 : Int32) (ei_95 : i_95 = nn + 1) (c_125 : r_91 = 1) (f_99 : Int32) (ef_99 : f_99 = u_94.2.2.1 + 1) (c_146 : ¬ (st ≤ 1)) (c_157 : f_99 = st) (c_167 : ¬ ((u_94.1 - u_94.1 / 8 * 8) = 0)) (f_100 : Int32) (ef_100 : f_100 = u_94.2.1 + 1) (u_102 : Tk) (hw_101 : u_102 = FX3_goOn st lo th bm km qm bd (u_94.1, f_100, f_99, u_94.2.2.2)) : Sum.inl ((u_102.1, u_102.2.1, 0, u_102.2.2.2), i_95) = SX3_skip_20 st lo th bm km qm bd ym nn := by
  subst hw_92
  subst hw_93
  subst ei_95
  subst ef_99
  subst ef_100
  subst hw_101
  exact (((((((((((if_pos c_27).trans (if_pos c_35)).trans (if_neg c_42)).trans (if_pos c_50)).trans (if_neg c_57)).trans (if_pos c_71)).trans (if_neg c_80)).trans (if_pos c_125)).trans (if_neg c_146)).trans (if_pos c_157)).trans (if_neg c_167)).symm
set_option maxRecDepth 100000 in
theorem ssX3_skip_20_59 (st : Int32) (lo : Int32) (th : Int32) (bm : Bm) (km : Rw) (qm : Tk) (bd : Int32) (ym : Tk) (nn : Int32) (c_27 : (ym.1 - ym.1 / 8 * 8) = 0) (c_35 : st = 1) (c_42 : ¬ (ym.2.2.2 = 0)) (c_50 : st = 1) (c_57 : ¬ (ym.2.2.2 = 0)) (c_71 : lo = 0) (c_80 : (ym.1 - ym.1 / 8 * 8) = 0) (r_103 : Int32) (hw_104 : r_103 = FX3_bitAt st lo th bm km qm bd ym ym.1) (u_106 : Tk) (hw_105 : u_106 = FX3_goOn st lo th bm km qm bd ym) (f_107 : Int32) (ef_107 : f_107 = u_106.2.1 + 1) : Sum.inl ((u_106.1, f_107, u_106.2.2.1, u_106.2.2.2), nn) = SX3_skip_20 st lo th bm km qm bd ym nn := by
  subst hw_104
  subst hw_105
  subst ef_107
  exact (((((((if_pos c_27).trans (if_pos c_35)).trans (if_neg c_42)).trans (if_pos c_50)).trans (if_neg c_57)).trans (if_pos c_71)).trans (if_pos c_80)).symm
set_option maxRecDepth 100000 in
theorem ssX3_skip_20_60 (st : Int32) (lo : Int32) (th : Int32) (bm : Bm) (km : Rw) (qm : Tk) (bd : Int32) (ym : Tk) (nn : Int32) (c_27 : (ym.1 - ym.1 / 8 * 8) = 0) (c_35 : st = 1) (c_42 : ¬ (ym.2.2.2 = 0)) (c_50 : st = 1) (c_57 : ¬ (ym.2.2.2 = 0)) (c_71 : ¬ (lo = 0)) (c_80 : ¬ ((ym.1 - ym.1 / 8 * 8) = 7)) (r_108 : Int32) (hw_109 : r_108 = FX3_bitAt st lo th bm km qm bd ym ym.1) (u_111 : Tk) (hw_110 : u_111 = FX3_goOn st lo th bm km qm bd ym) (i_112 : Int32) (ei_112 : i_112 = nn + 1) (c_125 : ¬ (r_108 = 1)) (c_146 : st ≤ 1) : Sum.inl ((u_111.1, u_111.2.1, 0, u_111.2.2.2), i_112) = SX3_skip_20 st lo th bm km qm bd ym nn := by
  subst hw_109
  subst hw_110
  subst ei_112
  exact (((((((((if_pos c_27).trans (if_pos c_35)).trans (if_neg c_42)).trans (if_pos c_50)).trans (if_neg c_57)).trans (if_neg c_71)).trans (if_neg c_80)).trans (if_neg c_125)).trans (if_pos c_146)).symm
set_option maxRecDepth 100000 in
theorem ssX3_skip_20_61 (st : Int32) (lo : Int32) (th : Int32) (bm : Bm) (km : Rw) (qm : Tk) (bd : Int32) (ym : Tk) (nn : Int32) (c_27 : (ym.1 - ym.1 / 8 * 8) = 0) (c_35 : st = 1) (c_42 : ¬ (ym.2.2.2 = 0)) (c_50 : st = 1) (c_57 : ¬ (ym.2.2.2 = 0)) (c_71 : ¬ (lo = 0)) (c_80 : ¬ ((ym.1 - ym.1 / 8 * 8) = 7)) (r_108 : Int32) (hw_109 : r_108 = FX3_bitAt st lo th bm km qm bd ym ym.1) (u_111 : Tk) (hw_110 : u_111 = FX3_goOn st lo th bm km qm bd ym) (i_112 : Int32) (ei_112 : i_112 = nn + 1) (c_125 : ¬ (r_108 = 1)) (c_146 : ¬ (st ≤ 1)) (c_157 : ¬ (0 = st)) : Sum.inl ((u_111.1, u_111.2.1, 0, u_111.2.2.2), i_112) = SX3_skip_20 st lo th bm km qm bd ym nn := by
  subst hw_109
  subst hw_110
  subst ei_112
  exact ((((((((((if_pos c_27).trans (if_pos c_35)).trans (if_neg c_42)).trans (if_pos c_50)).trans (if_neg c_57)).trans (if_neg c_71)).trans (if_neg c_80)).trans (if_neg c_125)).trans (if_neg c_146)).trans (if_neg c_157)).symm
set_option maxRecDepth 100000 in
theorem ssX3_skip_20_62 (st : Int32) (lo : Int32) (th : Int32) (bm : Bm) (km : Rw) (qm : Tk) (bd : Int32) (ym : Tk) (nn : Int32) (c_27 : (ym.1 - ym.1 / 8 * 8) = 0) (c_35 : st = 1) (c_42 : ¬ (ym.2.2.2 = 0)) (c_50 : st = 1) (c_57 : ¬ (ym.2.2.2 = 0)) (c_71 : ¬ (lo = 0)) (c_80 : ¬ ((ym.1 - ym.1 / 8 * 8) = 7)) (r_108 : Int32) (hw_109 : r_108 = FX3_bitAt st lo th bm km qm bd ym ym.1) (u_111 : Tk) (hw_110 : u_111 = FX3_goOn st lo th bm km qm bd ym) (i_112 : Int32) (ei_112 : i_112 = nn + 1) (c_125 : ¬ (r_108 = 1)) (c_146 : ¬ (st ≤ 1)) (c_157 : 0 = st) (c_167 : (u_111.1 - u_111.1 / 8 * 8) = 0) : Sum.inl ((u_111.1, u_111.2.1, 0, u_111.2.2.2), i_112) = SX3_skip_20 st lo th bm km qm bd ym nn := by
  subst hw_109
  subst hw_110
  subst ei_112
  exact (((((((((((if_pos c_27).trans (if_pos c_35)).trans (if_neg c_42)).trans (if_pos c_50)).trans (if_neg c_57)).trans (if_neg c_71)).trans (if_neg c_80)).trans (if_neg c_125)).trans (if_neg c_146)).trans (if_pos c_157)).trans (if_pos c_167)).symm
set_option maxRecDepth 100000 in
theorem ssX3_skip_20_63 (st : Int32) (lo : Int32) (th : Int32) (bm : Bm) (km : Rw) (qm : Tk) (bd : Int32) (ym : Tk) (nn : Int32) (c_27 : (ym.1 - ym.1 / 8 * 8) = 0) (c_35 : st = 1) (c_42 : ¬ (ym.2.2.2 = 0)) (c_50 : st = 1) (c_57 : ¬ (ym.2.2.2 = 0)) (c_71 : ¬ (lo = 0)) (c_80 : ¬ ((ym.1 - ym.1 / 8 * 8) = 7)) (r_108 : Int32) (hw_109 : r_108 = FX3_bitAt st lo th bm km qm bd ym ym.1) (u_111 : Tk) (hw_110 : u_111 = FX3_goOn st lo th bm km qm bd ym) (i_112 : Int32) (ei_112 : i_112 = nn + 1) (c_125 : ¬ (r_108 = 1)) (c_146 : ¬ (st ≤ 1)) (c_157 : 0 = st) (c_167 : ¬ ((u_111.1 - u_111.1 / 8 * 8) = 0)) (f_113 : Int32) (ef_113 : f_113 = u_111.2.1 + 1) (u_115 : Tk) (hw_114 : u_115 = FX3_goOn st lo th bm km qm bd (u_111.1, f_113, 0, u_111.2.2.2)) : Sum.inl ((u_115.1, u_115.2.1, 0, u_115.2.2.2), i_112) = SX3_skip_20 st lo th bm km qm bd ym nn := by
  subst hw_109
  subst hw_110
  subst ei_112
  subst ef_113
  subst hw_114
  exact (((((((((((if_pos c_27).trans (if_pos c_35)).trans (if_neg c_42)).trans (if_pos c_50)).trans (if_neg c_57)).trans (if_neg c_71)).trans (if_neg c_80)).trans (if_neg c_125)).trans (if_neg c_146)).trans (if_pos c_157)).trans (if_neg c_167)).symm
set_option maxRecDepth 100000 in
theorem ssX3_skip_20_64 (st : Int32) (lo : Int32) (th : Int32) (bm : Bm) (km : Rw) (qm : Tk) (bd : Int32) (ym : Tk) (nn : Int32) (c_27 : (ym.1 - ym.1 / 8 * 8) = 0) (c_35 : st = 1) (c_42 : ¬ (ym.2.2.2 = 0)) (c_50 : st = 1) (c_57 : ¬ (ym.2.2.2 = 0)) (c_71 : ¬ (lo = 0)) (c_80 : ¬ ((ym.1 - ym.1 / 8 * 8) = 7)) (r_108 : Int32) (hw_109 : r_108 = FX3_bitAt st lo th bm km qm bd ym ym.1) (u_111 : Tk) (hw_110 : u_111 = FX3_goOn st lo th bm km qm bd ym) (i_112 : Int32) (ei_112 : i_112 = nn + 1) (c_125 : r_108 = 1) (f_116 : Int32) (ef_116 : f_116 = u_111.2.2.1 + 1) (c_146 : st ≤ 1) : Sum.inl ((u_111.1, u_111.2.1, f_116, u_111.2.2.2), i_112) = SX3_skip_20 st lo th bm km qm bd ym nn := by
  subst hw_109
  subst hw_110
  subst ei_112
  subst ef_116
  exact (((((((((if_pos c_27).trans (if_pos c_35)).trans (if_neg c_42)).trans (if_pos c_50)).trans (if_neg c_57)).trans (if_neg c_71)).trans (if_neg c_80)).trans (if_pos c_125)).trans (if_pos c_146)).symm
set_option maxRecDepth 100000 in
theorem ssX3_skip_20_65 (st : Int32) (lo : Int32) (th : Int32) (bm : Bm) (km : Rw) (qm : Tk) (bd : Int32) (ym : Tk) (nn : Int32) (c_27 : (ym.1 - ym.1 / 8 * 8) = 0) (c_35 : st = 1) (c_42 : ¬ (ym.2.2.2 = 0)) (c_50 : st = 1) (c_57 : ¬ (ym.2.2.2 = 0)) (c_71 : ¬ (lo = 0)) (c_80 : ¬ ((ym.1 - ym.1 / 8 * 8) = 7)) (r_108 : Int32) (hw_109 : r_108 = FX3_bitAt st lo th bm km qm bd ym ym.1) (u_111 : Tk) (hw_110 : u_111 = FX3_goOn st lo th bm km qm bd ym) (i_112 : Int32) (ei_112 : i_112 = nn + 1) (c_125 : r_108 = 1) (f_116 : Int32) (ef_116 : f_116 = u_111.2.2.1 + 1) (c_146 : ¬ (st ≤ 1)) (c_157 : ¬ (f_116 = st)) : Sum.inl ((u_111.1, u_111.2.1, f_116, u_111.2.2.2), i_112) = SX3_skip_20 st lo th bm km qm bd ym nn := by
  subst hw_109
  subst hw_110
  subst ei_112
  subst ef_116
  exact ((((((((((if_pos c_27).trans (if_pos c_35)).trans (if_neg c_42)).trans (if_pos c_50)).trans (if_neg c_57)).trans (if_neg c_71)).trans (if_neg c_80)).trans (if_pos c_125)).trans (if_neg c_146)).trans (if_neg c_157)).symm
set_option maxRecDepth 100000 in
theorem ssX3_skip_20_66 (st : Int32) (lo : Int32) (th : Int32) (bm : Bm) (km : Rw) (qm : Tk) (bd : Int32) (ym : Tk) (nn : Int32) (c_27 : (ym.1 - ym.1 / 8 * 8) = 0) (c_35 : st = 1) (c_42 : ¬ (ym.2.2.2 = 0)) (c_50 : st = 1) (c_57 : ¬ (ym.2.2.2 = 0)) (c_71 : ¬ (lo = 0)) (c_80 : ¬ ((ym.1 - ym.1 / 8 * 8) = 7)) (r_108 : Int32) (hw_109 : r_108 = FX3_bitAt st lo th bm km qm bd ym ym.1) (u_111 : Tk) (hw_110 : u_111 = FX3_goOn st lo th bm km qm bd ym) (i_112 : Int32) (ei_112 : i_112 = nn + 1) (c_125 : r_108 = 1) (f_116 : Int32) (ef_116 : f_116 = u_111.2.2.1 + 1) (c_146 : ¬ (st ≤ 1)) (c_157 : f_116 = st) (c_167 : (u_111.1 - u_111.1 / 8 * 8) = 0) : Sum.inl ((u_111.1, u_111.2.1, f_116, u_111.2.2.2), i_112) = SX3_skip_20 st lo th bm km qm bd ym nn := by
  subst hw_109
  subst hw_110
  subst ei_112
  subst ef_116
  exact (((((((((((if_pos c_27).trans (if_pos c_35)).trans (if_neg c_42)).trans (if_pos c_50)).trans (if_neg c_57)).trans (if_neg c_71)).trans (if_neg c_80)).trans (if_pos c_125)).trans (if_neg c_146)).trans (if_pos c_157)).trans (if_pos c_167)).symm
set_option maxRecDepth 100000 in
theorem ssX3_skip_20_67 (st : Int32) (lo : Int32) (th : Int32) (bm : Bm) (km : Rw) (qm : Tk) (bd : Int32) (ym : Tk) (nn : Int32) (c_27 : (ym.1 - ym.1 / 8 * 8) = 0) (c_35 : st = 1) (c_42 : ¬ (ym.2.2.2 = 0)) (c_50 : st = 1) (c_57 : ¬ (ym.2.2.2 = 0)) (c_71 : ¬ (lo = 0)) (c_80 : ¬ ((ym.1 - ym.1 / 8 * 8) = 7)) (r_108 : Int32) (hw_109 : r_108 = FX3_bitAt st lo th bm km qm bd ym ym.1) (u_111 : Tk) (hw_110 : u_111 = FX3_goOn st lo th bm km qm bd ym) (i_112 : Int32) (ei_112 : i_112 = nn + 1) (c_125 : r_108 = 1) (f_116 : Int32) (ef_116 : f_116 = u_111.2.2.1 + 1) (c_146 : ¬ (st ≤ 1)) (c_157 : f_116 = st) (c_167 : ¬ ((u_111.1 - u_111.1 / 8 * 8) = 0)) (f_117 : Int32) (ef_117 : f_117 = u_111.2.1 + 1) (u_119 : Tk) (hw_118 : u_119 = FX3_goOn st lo th bm km qm bd (u_111.1, f_117, f_116, u_111.2.2.2)) : Sum.inl ((u_119.1, u_119.2.1, 0, u_119.2.2.2), i_112) = SX3_skip_20 st lo th bm km qm bd ym nn := by
  subst hw_109
  subst hw_110
  subst ei_112
  subst ef_116
  subst ef_117
  subst hw_118
  exact (((((((((((if_pos c_27).trans (if_pos c_35)).trans (if_neg c_42)).trans (if_pos c_50)).trans (if_neg c_57)).trans (if_neg c_71)).trans (if_neg c_80)).trans (if_pos c_125)).trans (if_neg c_146)).trans (if_pos c_157)).trans (if_neg c_167)).symm
set_option maxRecDepth 100000 in
theorem ssX3_skip_20_68 (st : Int32) (lo : Int32) (th : Int32) (bm : Bm) (km : Rw) (qm : Tk) (bd : Int32) (ym : Tk) (nn : Int32) (c_27 : (ym.1 - ym.1 / 8 * 8) = 0) (c_35 : st = 1) (c_42 : ¬ (ym.2.2.2 = 0)) (c_50 : st = 1) (c_57 : ¬ (ym.2.2.2 = 0)) (c_71 : ¬ (lo = 0)) (c_80 : (ym.1 - ym.1 / 8 * 8) = 7) (r_120 : Int32) (hw_121 : r_120 = FX3_bitAt st lo th bm km qm bd ym ym.1) (u_123 : Tk) (hw_122 : u_123 = FX3_goOn st lo th bm km qm bd ym) (f_124 : Int32) (ef_124 : f_124 = u_123.2.1 + 1) : Sum.inl ((u_123.1, f_124, u_123.2.2.1, u_123.2.2.2), nn) = SX3_skip_20 st lo th bm km qm bd ym nn := by
  subst hw_121
  subst hw_122
  subst ef_124
  exact (((((((if_pos c_27).trans (if_pos c_35)).trans (if_neg c_42)).trans (if_pos c_50)).trans (if_neg c_57)).trans (if_neg c_71)).trans (if_pos c_80)).symm
set_option maxRecDepth 100000 in
theorem plX3_skip_0 (st : Int32) (lo : Int32) (th : Int32) (bm : Bm) (km : Rw) (qm : Tk) (bd : Int32) (ym : Tk) (c_9 : bd = 0) (u_2 : Tk) (hw_1 : u_2 = FX3_beginTry st lo 0 bm km qm bd ym) : LX3_skip_20 st lo 17 0 bm km qm bd u_2 0 = FX3_skip st lo th bm km qm bd ym := by
  subst hw_1
  exact (if_pos c_9).symm
set_option maxRecDepth 100000 in
theorem plX3_skip_1 (st : Int32) (lo : Int32) (th : Int32) (bm : Bm) (km : Rw) (qm : Tk) (bd : Int32) (ym : Tk) (c_9 : ¬ (bd = 0)) : (0, 0, qm, ym) = FX3_skip st lo th bm km qm bd ym := by
  exact (if_neg c_9).symm
set_option maxHeartbeats 4000000 in
set_option maxRecDepth 100000 in
theorem kX3_skip_20 {p : Program} {l : Launch} {e : Env} {s : State} {m : MethodId} {args : Array Value} {below : List Frame} {meth : Method} {c : Code} {dC : Nat → ClassId} {dI : Nat → Nat → Nat} {cZ cK : ClassId} {om ob ok : Nat} {st : Int32} {lo : Int32} {z : Int32 × Int32 × Tk × Tk} {A : Nat → Prop} (hx : p.tables.exec = Jvm.exec) (hb : c.code = cX3_skip) (hr : meth.sig.returnType = (some .int)) (hml : c.maxLocals = 4) (hown : s.vm.findClass RX3 = some m.cls) (hts : ∀ w ∈ G, w.before args s = true) (hlocks : meth.locks = false) (hA : ∀ q : Nat, s.heap.size ≤ q → A q) (hZ : zOk s) (hK : va_K (dC, dI) vwCl [(cZ, .boolean), (cK, .int)] s) : ∀ (n : Nat) (th : Int32) (bm : Bm) (km : Rw) (qm : Tk) (bd : Int32) (ym : Tk) (nn : Int32), (skE st lo (SX3_skip_20 st lo th bm km qm bd) km n ym nn) → LX3_skip_20 st lo n th bm km qm bd ym nn = z → ∀ (H : Heap) (locs : List Loc), va_P (dC, dI) vwCl [(om, .inr (3, [.int th, .int st, .int lo, .ref ob, .int bm.2.1, .int bm.2.2.1, .int bm.2.2.2.1, .int bm.2.2.2.2, .ref ok, .int km.2, .int qm.1, .int qm.2.1, .int qm.2.2.1, .int qm.2.2.2, .int bd, .int ym.1, .int ym.2.1, .int ym.2.2.1, .int ym.2.2.2])), (ob, .inl (cZ, 5200, .inl bm.1)), (ok, .inl (cK, 600, .inl km.1))] H → va_D A [(om, .inr (3, [.int th, .int st, .int lo, .ref ob, .int bm.2.1, .int bm.2.2.1, .int bm.2.2.2.1, .int bm.2.2.2.2, .ref ok, .int km.2, .int qm.1, .int qm.2.1, .int qm.2.2.1, .int qm.2.2.2, .int bd, .int ym.1, .int ym.2.1, .int ym.2.2.1, .int ym.2.2.2])), (ob, .inl (cZ, 5200, .inl bm.1)), (ok, .inl (cK, 600, .inl km.1))] → va_S A s.heap H locs → ∀ (ls : Array Slot), lv_has ls 4 [(0, .ref om), (1, .int nn)] → W p l e (headSpec (Cond.code yX3_skip cX3_skip 4 (some .int) :: G) ({ frames := 1, cells := 0, slots := 0, locals := 22 } : Room)).room s m args below meth c H locs 0 0 (MQ below (va_Qi (fun (r : Int32) (u : Int32 × Tk × Tk) => (r, u) = z) (fun (u : Int32 × Tk × Tk) (t : State) => va_P (dC, dI) vwCl [(om, .inr (3, [.int u.1, .int st, .int lo, .ref ob, .int bm.2.1, .int bm.2.2.1, .int bm.2.2.2.1, .int bm.2.2.2.2, .ref ok, .int km.2, .int u.2.1.1, .int u.2.1.2.1, .int u.2.1.2.2.1, .int u.2.1.2.2.2, .int bd, .int u.2.2.1, .int u.2.2.2.1, .int u.2.2.2.2.1, .int u.2.2.2.2.2])), (ob, .inl (cZ, 5200, .inl bm.1)), (ok, .inl (cK, 600, .inl km.1))] t.heap ∧ va_D A [(om, .inr (3, [.int u.1, .int st, .int lo, .ref ob, .int bm.2.1, .int bm.2.2.1, .int bm.2.2.2.1, .int bm.2.2.2.2, .ref ok, .int km.2, .int u.2.1.1, .int u.2.1.2.1, .int u.2.1.2.2.1, .int u.2.1.2.2.2, .int bd, .int u.2.2.1, .int u.2.2.2.1, .int u.2.2.2.2.1, .int u.2.2.2.2.2])), (ob, .inl (cZ, 5200, .inl bm.1)), (ok, .inl (cK, 600, .inl km.1))]) A) args s 0 0 A) (F0 m 20 ls []) := by
  intro n
  induction n with
  | zero =>
    intro th bm km qm bd ym nn hf hz
    exact absurd hf (fun h => h)
  | succ n ih =>
    intro th bm km qm bd ym nn hf hz H locs hP hD hS ls hl
    refine lv_aload_n hx hb dX3_skip_20 rfl (lv_at hl 0 rfl) ?_
    refine va_get (D := (dC, dI)) (ci := 3) (v := .int ym.1) (C := RX3) (T := TX3) (N := 19) hx hb hts inGX3 hown hK hP 0 rfl rfl 15 (by decide) (hts _ wd452) (fun _ h9 => h9) rfl dX3_skip_21 ?_
    refine lv_bipush (v := 8) hx hb dX3_skip_24 (by decide) ?_
    refine lv_irem hx hb dX3_skip_26 (by decide) ?_
    refine lv_if_ne (tgt := 45) hx hb dX3_skip_27 (by decide) (fun c_27 => ?_) (fun c_27 => ?_)
    · refine lv_aload_n hx hb dX3_skip_45 rfl (lv_at hl 0 rfl) ?_
      refine va_get (D := (dC, dI)) (ci := 3) (v := .int st) (C := RX3) (T := TX3) (N := 19) hx hb hts inGX3 hown hK hP 0 rfl rfl 1 (by decide) (hts _ wd438) (fun _ h9 => h9) rfl dX3_skip_46 ?_
      refine lv_iconst (v := 1) hx hb dX3_skip_49 (by decide) ?_
      refine lv_icmp_ne (tgt := 87) hx hb dX3_skip_50 (by decide) (fun c_50 => ?_) (fun c_50 => ?_)
      · refine lv_iconst (v := 0) hx hb dX3_skip_87 (by decide) ?_
        refine lv_istore_n (lv' := [(2, .int 0), (0, .ref om), (1, .int nn)]) hx hb dX3_skip_88 rfl hl (by decide) rfl (fun ls hl => ?_)
        refine lv_aload_n hx hb dX3_skip_89 rfl (lv_at hl 1 rfl) ?_
        refine lv_aload_n hx hb dX3_skip_90 rfl (lv_at hl 1 rfl) ?_
        refine va_get (D := (dC, dI)) (ci := 3) (v := .int ym.1) (C := RX3) (T := TX3) (N := 19) hx hb hts inGX3 hown hK hP 0 rfl rfl 15 (by decide) (hts _ wd452) (fun _ h9 => h9) rfl dX3_skip_91 ?_
        have hPc := hP.sub (ws' := [(om, .inr (3, [.int th, .int st, .int lo, .ref ob, .int bm.2.1, .int bm.2.2.1, .int bm.2.2.2.1, .int bm.2.2.2.2, .ref ok, .int km.2, .int qm.1, .int qm.2.1, .int qm.2.2.1, .int qm.2.2.2, .int bd, .int ym.1, .int ym.2.1, .int ym.2.2.1, .int ym.2.2.2])), (ob, .inl (cZ, 5200, .inl bm.1)), (ok, .inl (cK, 600, .inl km.1))]) [0, 1, 2] rfl
        have hKc := hK.sub (tys' := [(cZ, .boolean), (cK, .int)]) [0, 1] rfl
        refine vp_callSi (va_Run.run (va_runV (As := [.int ym.1]) (rest := []) ⟨hx, hb, hml, hown, hts⟩ (mX3_bitAt l dC dI cZ cK om ob ok st lo th bm km qm bd ym ym.1 (t_in (by first | exact hf.2.1 (Or.inl c_27) | exact hf.2.1 (Or.inr ⟨c_35, c_42⟩)))) (cwV 1 hts (gV wd569 wd570 wd21 wd30 wd571) rfl rfl rfl (by decide +kernel) ⟨Nat.le_of_ble_eq_true rfl, Nat.le_of_ble_eq_true rfl⟩) ⟨fb_ro, va_recv hKc hPc (ci := 3) (q0 := 0) rfl rfl, pre_ro hPc hKc hZ⟩ rfl rfl hl.1 rfl (lv_room (Nat.le_of_ble_eq_true rfl)) dX3_skip_94 ⟨Nat.le_of_ble_eq_true rfl, Nat.le_of_ble_eq_true rfl⟩)) (fun r_1 hw_2 => ?_)
        refine lv_istore_n (lv' := [(3, .int r_1), (2, .int 0), (0, .ref om), (1, .int nn)]) hx hb dX3_skip_97 rfl hl (by decide) rfl (fun ls hl => ?_)
        refine lv_aload_n hx hb dX3_skip_98 rfl (lv_at hl 2 rfl) ?_
        have hPc := hP.sub (ws' := [(om, .inr (3, [.int th, .int st, .int lo, .ref ob, .int bm.2.1, .int bm.2.2.1, .int bm.2.2.2.1, .int bm.2.2.2.2, .ref ok, .int km.2, .int qm.1, .int qm.2.1, .int qm.2.2.1, .int qm.2.2.2, .int bd, .int ym.1, .int ym.2.1, .int ym.2.2.1, .int ym.2.2.2])), (ob, .inl (cZ, 5200, .inl bm.1)), (ok, .inl (cK, 600, .inl km.1))]) [0, 1, 2] rfl
        have hKc := hK.sub (tys' := [(cZ, .boolean), (cK, .int)]) [0, 1] rfl
        have hDc := hD.sub (ws' := [(om, .inr (3, [.int th, .int st, .int lo, .ref ob, .int bm.2.1, .int bm.2.2.1, .int bm.2.2.2.1, .int bm.2.2.2.2, .ref ok, .int km.2, .int qm.1, .int qm.2.1, .int qm.2.2.1, .int qm.2.2.2, .int bd, .int ym.1, .int ym.2.1, .int ym.2.2.1, .int ym.2.2.2])), (ob, .inl (cZ, 5200, .inl bm.1)), (ok, .inl (cK, 600, .inl km.1))]) [0, 1, 2] (by decide) rfl
        have hFc := va_free (wc := [(om, .inr (3, [.int th, .int st, .int lo, .ref ob, .int bm.2.1, .int bm.2.2.1, .int bm.2.2.2.1, .int bm.2.2.2.2, .ref ok, .int km.2, .int qm.1, .int qm.2.1, .int qm.2.2.1, .int qm.2.2.2, .int bd, .int ym.1, .int ym.2.1, .int ym.2.2.1, .int ym.2.2.2])), (ob, .inl (cZ, 5200, .inl bm.1)), (ok, .inl (cK, 600, .inl km.1))]) hD hS hA [0, 1, 2] rfl
        refine va_callv (va_runV (As := []) (rest := []) ⟨hx, hb, hml, hown, hts⟩ (mX3_goOn l dC dI cZ cK om ob ok H.size st lo th bm km qm bd ym (by first | exact hf.2.1 (Or.inl c_27) | exact hf.2.1 (Or.inr ⟨c_35, c_42⟩))) (cwV 0 hts (gV wd572 wd573 wd22 wd30 wd574) rfl rfl rfl (by decide +kernel) ⟨Nat.le_of_ble_eq_true rfl, Nat.le_of_ble_eq_true rfl⟩) ⟨fb_rw, va_recv hKc hPc (ci := 3) (q0 := 0) rfl rfl, pre_rw hPc hKc hDc hZ⟩ rfl rfl hl.1 rfl (lv_room (Nat.le_of_ble_eq_true rfl)) dX3_skip_99 ⟨Nat.le_of_ble_eq_true rfl, Nat.le_of_ble_eq_true rfl⟩) hS (fun q _ h => hFc q h) hFc (fun u_4 t H1 locs ht hvm hw_3 hB hz1 hk1 hS => ?_)
        obtain ⟨hP1, hD1⟩ := hB
        rw [ht] at hP1
        obtain ⟨hP, hD⟩ := va_join (wr := []) (w1 := [(om, .inr (3, [.int th, .int st, .int lo, .ref ob, .int bm.2.1, .int bm.2.2.1, .int bm.2.2.2.1, .int bm.2.2.2.2, .ref ok, .int km.2, .int qm.1, .int qm.2.1, .int qm.2.2.1, .int qm.2.2.2, .int bd, .int u_4.1, .int u_4.2.1, .int u_4.2.2.1, .int u_4.2.2.2])), (ob, .inl (cZ, 5200, .inl bm.1)), (ok, .inl (cK, 600, .inl km.1))]) hP hD [0, 1, 2] [] rfl rfl (by decide) (by decide) hk1 hFc hP1 hD1
        generalize H1 = H at hP hS ⊢
        have hP : va_P (dC, dI) vwCl [(om, .inr (3, [.int th, .int st, .int lo, .ref ob, .int bm.2.1, .int bm.2.2.1, .int bm.2.2.2.1, .int bm.2.2.2.2, .ref ok, .int km.2, .int qm.1, .int qm.2.1, .int qm.2.2.1, .int qm.2.2.2, .int bd, .int u_4.1, .int u_4.2.1, .int u_4.2.2.1, .int u_4.2.2.2])), (ob, .inl (cZ, 5200, .inl bm.1)), (ok, .inl (cK, 600, .inl km.1))] H := hP
        have hD : va_D A [(om, .inr (3, [.int th, .int st, .int lo, .ref ob, .int bm.2.1, .int bm.2.2.1, .int bm.2.2.2.1, .int bm.2.2.2.2, .ref ok, .int km.2, .int qm.1, .int qm.2.1, .int qm.2.2.1, .int qm.2.2.2, .int bd, .int u_4.1, .int u_4.2.1, .int u_4.2.2.1, .int u_4.2.2.2])), (ob, .inl (cZ, 5200, .inl bm.1)), (ok, .inl (cK, 600, .inl km.1))] := hD
        refine lv_iload_n hx hb dX3_skip_102 rfl (lv_at hl 1 rfl) ?_
        refine lv_if_eq (tgt := 119) hx hb dX3_skip_103 (by decide) (fun c_103 => ?_) (fun c_103 => absurd c_103 (by decide))
        obtain ⟨i_5, ei_5⟩ : ∃ y : Int32, y = nn + 1 := ⟨_, rfl⟩
        refine lv_iinc (v := i_5) (lv' := [(1, .int i_5), (3, .int r_1), (2, .int 0), (0, .ref om)]) hx hb dX3_skip_119 hl (k := 3) rfl (by rw [ei_5]; rfl) (by decide) rfl (fun ls hl => ?_)
        refine lv_aload_n hx hb dX3_skip_122 rfl (lv_at hl 3 rfl) ?_
        refine lv_iload_n hx hb dX3_skip_123 rfl (lv_at hl 1 rfl) ?_
        refine lv_iconst (v := 1) hx hb dX3_skip_124 (by decide) ?_
        refine lv_icmp_ne (tgt := 137) hx hb dX3_skip_125 (by decide) (fun c_125 => ?_) (fun c_125 => ?_)
        · refine lv_iconst (v := 0) hx hb dX3_skip_137 (by decide) ?_
          refine va_put (D := (dC, dI)) (ci := 3) (v := .int 0) (ty := .int) (C := RX3) (T := TX3) (N := 19) hx hb hts inGX3 tyX3 tyX3_ok nmX3 hown hK hP hD hS 0 rfl rfl 17 (by decide) (hts _ wd454) (fun _ h9 => h9) rfl (by decide +kernel) rfl rfl (Nat.le_of_ble_eq_true rfl) dX3_skip_138 (fun H locs hP hD hS => ?_)
          have hP : va_P (dC, dI) vwCl [(om, .inr (3, [.int th, .int st, .int lo, .ref ob, .int bm.2.1, .int bm.2.2.1, .int bm.2.2.2.1, .int bm.2.2.2.2, .ref ok, .int km.2, .int qm.1, .int qm.2.1, .int qm.2.2.1, .int qm.2.2.2, .int bd, .int u_4.1, .int u_4.2.1, .int 0, .int u_4.2.2.2])), (ob, .inl (cZ, 5200, .inl bm.1)), (ok, .inl (cK, 600, .inl km.1))] H := hP
          have hD : va_D A [(om, .inr (3, [.int th, .int st, .int lo, .ref ob, .int bm.2.1, .int bm.2.2.1, .int bm.2.2.2.1, .int bm.2.2.2.2, .ref ok, .int km.2, .int qm.1, .int qm.2.1, .int qm.2.2.1, .int qm.2.2.2, .int bd, .int u_4.1, .int u_4.2.1, .int 0, .int u_4.2.2.2])), (ob, .inl (cZ, 5200, .inl bm.1)), (ok, .inl (cK, 600, .inl km.1))] := hD
          refine lv_aload_n hx hb dX3_skip_141 rfl (lv_at hl 3 rfl) ?_
          refine va_get (D := (dC, dI)) (ci := 3) (v := .int st) (C := RX3) (T := TX3) (N := 19) hx hb hts inGX3 hown hK hP 0 rfl rfl 1 (by decide) (hts _ wd438) (fun _ h9 => h9) rfl dX3_skip_142 ?_
          refine lv_iconst (v := 1) hx hb dX3_skip_145 (by decide) ?_
          refine lv_icmp_le (tgt := 189) hx hb dX3_skip_146 (by decide) (fun c_146 => ?_) (fun c_146 => ?_)
          · refine lv_goto (tgt := 20) hx hb dX3_skip_189 (by decide) ?_
            exact ih th bm km qm bd (u_4.1, u_4.2.1, 0, u_4.2.2.2) i_5 (hf.2.2 _ _ (ssX3_skip_20_1 st lo th bm km qm bd ym nn c_27 c_50 _ hw_2 _ hw_3 _ ei_5 c_125 c_146)) ((plX3_skip_l20_0 st lo n th bm km qm bd ym nn c_27 c_50 _ hw_2 _ hw_3 _ ei_5 c_125 c_146).trans hz) _ _ (hP.sub (ws' := [(om, .inr (3, [.int th, .int st, .int lo, .ref ob, .int bm.2.1, .int bm.2.2.1, .int bm.2.2.2.1, .int bm.2.2.2.2, .ref ok, .int km.2, .int qm.1, .int qm.2.1, .int qm.2.2.1, .int qm.2.2.2, .int bd, .int ((u_4.1, u_4.2.1, 0, u_4.2.2.2).1), .int ((u_4.1, u_4.2.1, 0, u_4.2.2.2).2.1), .int ((u_4.1, u_4.2.1, 0, u_4.2.2.2).2.2.1), .int ((u_4.1, u_4.2.1, 0, u_4.2.2.2).2.2.2)])), (ob, .inl (cZ, 5200, .inl bm.1)), (ok, .inl (cK, 600, .inl km.1))]) [0, 1, 2] rfl) (hD.sub (ws' := [(om, .inr (3, [.int th, .int st, .int lo, .ref ob, .int bm.2.1, .int bm.2.2.1, .int bm.2.2.2.1, .int bm.2.2.2.2, .ref ok, .int km.2, .int qm.1, .int qm.2.1, .int qm.2.2.1, .int qm.2.2.2, .int bd, .int ((u_4.1, u_4.2.1, 0, u_4.2.2.2).1), .int ((u_4.1, u_4.2.1, 0, u_4.2.2.2).2.1), .int ((u_4.1, u_4.2.1, 0, u_4.2.2.2).2.2.1), .int ((u_4.1, u_4.2.1, 0, u_4.2.2.2).2.2.2)])), (ob, .inl (cZ, 5200, .inl bm.1)), (ok, .inl (cK, 600, .inl km.1))]) [0, 1, 2] (by decide) rfl) hS ls (lv_sub hl [3, 0] rfl)
          · refine lv_aload_n hx hb dX3_skip_149 rfl (lv_at hl 3 rfl) ?_
            refine va_get (D := (dC, dI)) (ci := 3) (v := .int 0) (C := RX3) (T := TX3) (N := 19) hx hb hts inGX3 hown hK hP 0 rfl rfl 17 (by decide) (hts _ wd454) (fun _ h9 => h9) rfl dX3_skip_150 ?_
            refine lv_aload_n hx hb dX3_skip_153 rfl (lv_at hl 3 rfl) ?_
            refine va_get (D := (dC, dI)) (ci := 3) (v := .int st) (C := RX3) (T := TX3) (N := 19) hx hb hts inGX3 hown hK hP 0 rfl rfl 1 (by decide) (hts _ wd438) (fun _ h9 => h9) rfl dX3_skip_154 ?_
            refine lv_icmp_ne (tgt := 189) hx hb dX3_skip_157 (by decide) (fun c_157 => ?_) (fun c_157 => ?_)
            · refine lv_goto (tgt := 20) hx hb dX3_skip_189 (by decide) ?_
              exact ih th bm km qm bd (u_4.1, u_4.2.1, 0, u_4.2.2.2) i_5 (hf.2.2 _ _ (ssX3_skip_20_2 st lo th bm km qm bd ym nn c_27 c_50 _ hw_2 _ hw_3 _ ei_5 c_125 c_146 c_157)) ((plX3_skip_l20_1 st lo n th bm km qm bd ym nn c_27 c_50 _ hw_2 _ hw_3 _ ei_5 c_125 c_146 c_157).trans hz) _ _ (hP.sub (ws' := [(om, .inr (3, [.int th, .int st, .int lo, .ref ob, .int bm.2.1, .int bm.2.2.1, .int bm.2.2.2.1, .int bm.2.2.2.2, .ref ok, .int km.2, .int qm.1, .int qm.2.1, .int qm.2.2.1, .int qm.2.2.2, .int bd, .int ((u_4.1, u_4.2.1, 0, u_4.2.2.2).1), .int ((u_4.1, u_4.2.1, 0, u_4.2.2.2).2.1), .int ((u_4.1, u_4.2.1, 0, u_4.2.2.2).2.2.1), .int ((u_4.1, u_4.2.1, 0, u_4.2.2.2).2.2.2)])), (ob, .inl (cZ, 5200, .inl bm.1)), (ok, .inl (cK, 600, .inl km.1))]) [0, 1, 2] rfl) (hD.sub (ws' := [(om, .inr (3, [.int th, .int st, .int lo, .ref ob, .int bm.2.1, .int bm.2.2.1, .int bm.2.2.2.1, .int bm.2.2.2.2, .ref ok, .int km.2, .int qm.1, .int qm.2.1, .int qm.2.2.1, .int qm.2.2.2, .int bd, .int ((u_4.1, u_4.2.1, 0, u_4.2.2.2).1), .int ((u_4.1, u_4.2.1, 0, u_4.2.2.2).2.1), .int ((u_4.1, u_4.2.1, 0, u_4.2.2.2).2.2.1), .int ((u_4.1, u_4.2.1, 0, u_4.2.2.2).2.2.2)])), (ob, .inl (cZ, 5200, .inl bm.1)), (ok, .inl (cK, 600, .inl km.1))]) [0, 1, 2] (by decide) rfl) hS ls (lv_sub hl [3, 0] rfl)
            · refine lv_aload_n hx hb dX3_skip_160 rfl (lv_at hl 3 rfl) ?_
              refine va_get (D := (dC, dI)) (ci := 3) (v := .int u_4.1) (C := RX3) (T := TX3) (N := 19) hx hb hts inGX3 hown hK hP 0 rfl rfl 15 (by decide) (hts _ wd452) (fun _ h9 => h9) rfl dX3_skip_161 ?_
              refine lv_bipush (v := 8) hx hb dX3_skip_164 (by decide) ?_
              refine lv_irem hx hb dX3_skip_166 (by decide) ?_
              refine lv_if_eq (tgt := 189) hx hb dX3_skip_167 (by decide) (fun c_167 => ?_) (fun c_167 => ?_)
              · refine lv_goto (tgt := 20) hx hb dX3_skip_189 (by decide) ?_
                exact ih th bm km qm bd (u_4.1, u_4.2.1, 0, u_4.2.2.2) i_5 (hf.2.2 _ _ (ssX3_skip_20_3 st lo th bm km qm bd ym nn c_27 c_50 _ hw_2 _ hw_3 _ ei_5 c_125 c_146 c_157 c_167)) ((plX3_skip_l20_2 st lo n th bm km qm bd ym nn c_27 c_50 _ hw_2 _ hw_3 _ ei_5 c_125 c_146 c_157 c_167).trans hz) _ _ (hP.sub (ws' := [(om, .inr (3, [.int th, .int st, .int lo, .ref ob, .int bm.2.1, .int bm.2.2.1, .int bm.2.2.2.1, .int bm.2.2.2.2, .ref ok, .int km.2, .int qm.1, .int qm.2.1, .int qm.2.2.1, .int qm.2.2.2, .int bd, .int ((u_4.1, u_4.2.1, 0, u_4.2.2.2).1), .int ((u_4.1, u_4.2.1, 0, u_4.2.2.2).2.1), .int ((u_4.1, u_4.2.1, 0, u_4.2.2.2).2.2.1), .int ((u_4.1, u_4.2.1, 0, u_4.2.2.2).2.2.2)])), (ob, .inl (cZ, 5200, .inl bm.1)), (ok, .inl (cK, 600, .inl km.1))]) [0, 1, 2] rfl) (hD.sub (ws' := [(om, .inr (3, [.int th, .int st, .int lo, .ref ob, .int bm.2.1, .int bm.2.2.1, .int bm.2.2.2.1, .int bm.2.2.2.2, .ref ok, .int km.2, .int qm.1, .int qm.2.1, .int qm.2.2.1, .int qm.2.2.2, .int bd, .int ((u_4.1, u_4.2.1, 0, u_4.2.2.2).1), .int ((u_4.1, u_4.2.1, 0, u_4.2.2.2).2.1), .int ((u_4.1, u_4.2.1, 0, u_4.2.2.2).2.2.1), .int ((u_4.1, u_4.2.1, 0, u_4.2.2.2).2.2.2)])), (ob, .inl (cZ, 5200, .inl bm.1)), (ok, .inl (cK, 600, .inl km.1))]) [0, 1, 2] (by decide) rfl) hS ls (lv_sub hl [3, 0] rfl)
              · refine lv_aload_n hx hb dX3_skip_170 rfl (lv_at hl 3 rfl) ?_
                refine lv_dup hx hb dX3_skip_171 rfl ?_
                refine va_get (D := (dC, dI)) (ci := 3) (v := .int u_4.2.1) (C := RX3) (T := TX3) (N := 19) hx hb hts inGX3 hown hK hP 0 rfl rfl 16 (by decide) (hts _ wd453) (fun _ h9 => h9) rfl dX3_skip_172 ?_
                refine lv_iconst (v := 1) hx hb dX3_skip_175 (by decide) ?_
                refine lv_iadd hx hb dX3_skip_176 ?_
                refine lv_topi (fun f_6 ef_6 => ?_)
                refine va_put (D := (dC, dI)) (ci := 3) (v := .int f_6) (ty := .int) (C := RX3) (T := TX3) (N := 19) hx hb hts inGX3 tyX3 tyX3_ok nmX3 hown hK hP hD hS 0 rfl rfl 16 (by decide) (hts _ wd453) (fun _ h9 => h9) rfl (by decide +kernel) rfl rfl (Nat.le_of_ble_eq_true rfl) dX3_skip_177 (fun H locs hP hD hS => ?_)
                have hP : va_P (dC, dI) vwCl [(om, .inr (3, [.int th, .int st, .int lo, .ref ob, .int bm.2.1, .int bm.2.2.1, .int bm.2.2.2.1, .int bm.2.2.2.2, .ref ok, .int km.2, .int qm.1, .int qm.2.1, .int qm.2.2.1, .int qm.2.2.2, .int bd, .int u_4.1, .int f_6, .int 0, .int u_4.2.2.2])), (ob, .inl (cZ, 5200, .inl bm.1)), (ok, .inl (cK, 600, .inl km.1))] H := hP
                have hD : va_D A [(om, .inr (3, [.int th, .int st, .int lo, .ref ob, .int bm.2.1, .int bm.2.2.1, .int bm.2.2.2.1, .int bm.2.2.2.2, .ref ok, .int km.2, .int qm.1, .int qm.2.1, .int qm.2.2.1, .int qm.2.2.2, .int bd, .int u_4.1, .int f_6, .int 0, .int u_4.2.2.2])), (ob, .inl (cZ, 5200, .inl bm.1)), (ok, .inl (cK, 600, .inl km.1))] := hD
                refine lv_aload_n hx hb dX3_skip_180 rfl (lv_at hl 3 rfl) ?_
                have hPc := hP.sub (ws' := [(om, .inr (3, [.int th, .int st, .int lo, .ref ob, .int bm.2.1, .int bm.2.2.1, .int bm.2.2.2.1, .int bm.2.2.2.2, .ref ok, .int km.2, .int qm.1, .int qm.2.1, .int qm.2.2.1, .int qm.2.2.2, .int bd, .int u_4.1, .int f_6, .int 0, .int u_4.2.2.2])), (ob, .inl (cZ, 5200, .inl bm.1)), (ok, .inl (cK, 600, .inl km.1))]) [0, 1, 2] rfl
                have hKc := hK.sub (tys' := [(cZ, .boolean), (cK, .int)]) [0, 1] rfl
                have hDc := hD.sub (ws' := [(om, .inr (3, [.int th, .int st, .int lo, .ref ob, .int bm.2.1, .int bm.2.2.1, .int bm.2.2.2.1, .int bm.2.2.2.2, .ref ok, .int km.2, .int qm.1, .int qm.2.1, .int qm.2.2.1, .int qm.2.2.2, .int bd, .int u_4.1, .int f_6, .int 0, .int u_4.2.2.2])), (ob, .inl (cZ, 5200, .inl bm.1)), (ok, .inl (cK, 600, .inl km.1))]) [0, 1, 2] (by decide) rfl
                have hFc := va_free (wc := [(om, .inr (3, [.int th, .int st, .int lo, .ref ob, .int bm.2.1, .int bm.2.2.1, .int bm.2.2.2.1, .int bm.2.2.2.2, .ref ok, .int km.2, .int qm.1, .int qm.2.1, .int qm.2.2.1, .int qm.2.2.2, .int bd, .int u_4.1, .int f_6, .int 0, .int u_4.2.2.2])), (ob, .inl (cZ, 5200, .inl bm.1)), (ok, .inl (cK, 600, .inl km.1))]) hD hS hA [0, 1, 2] rfl
                refine va_callv (va_runV (As := []) (rest := []) ⟨hx, hb, hml, hown, hts⟩ (mX3_goOn l dC dI cZ cK om ob ok H.size st lo th bm km qm bd (u_4.1, f_6, 0, u_4.2.2.2) (sk_tT hf.1 (by first | exact hf.2.1 (Or.inl c_27) | exact hf.2.1 (Or.inr ⟨c_35, c_42⟩)) (by assumption) c_167)) (cwV 0 hts (gV wd572 wd573 wd22 wd30 wd574) rfl rfl rfl (by decide +kernel) ⟨Nat.le_of_ble_eq_true rfl, Nat.le_of_ble_eq_true rfl⟩) ⟨fb_rw, va_recv hKc hPc (ci := 3) (q0 := 0) rfl rfl, pre_rw hPc hKc hDc hZ⟩ rfl rfl hl.1 rfl (lv_room (Nat.le_of_ble_eq_true rfl)) dX3_skip_181 ⟨Nat.le_of_ble_eq_true rfl, Nat.le_of_ble_eq_true rfl⟩) hS (fun q _ h => hFc q h) hFc (fun u_8 t H1 locs ht hvm hw_7 hB hz1 hk1 hS => ?_)
                obtain ⟨hP1, hD1⟩ := hB
                rw [ht] at hP1
                obtain ⟨hP, hD⟩ := va_join (wr := []) (w1 := [(om, .inr (3, [.int th, .int st, .int lo, .ref ob, .int bm.2.1, .int bm.2.2.1, .int bm.2.2.2.1, .int bm.2.2.2.2, .ref ok, .int km.2, .int qm.1, .int qm.2.1, .int qm.2.2.1, .int qm.2.2.2, .int bd, .int u_8.1, .int u_8.2.1, .int u_8.2.2.1, .int u_8.2.2.2])), (ob, .inl (cZ, 5200, .inl bm.1)), (ok, .inl (cK, 600, .inl km.1))]) hP hD [0, 1, 2] [] rfl rfl (by decide) (by decide) hk1 hFc hP1 hD1
                generalize H1 = H at hP hS ⊢
                have hP : va_P (dC, dI) vwCl [(om, .inr (3, [.int th, .int st, .int lo, .ref ob, .int bm.2.1, .int bm.2.2.1, .int bm.2.2.2.1, .int bm.2.2.2.2, .ref ok, .int km.2, .int qm.1, .int qm.2.1, .int qm.2.2.1, .int qm.2.2.2, .int bd, .int u_8.1, .int u_8.2.1, .int u_8.2.2.1, .int u_8.2.2.2])), (ob, .inl (cZ, 5200, .inl bm.1)), (ok, .inl (cK, 600, .inl km.1))] H := hP
                have hD : va_D A [(om, .inr (3, [.int th, .int st, .int lo, .ref ob, .int bm.2.1, .int bm.2.2.1, .int bm.2.2.2.1, .int bm.2.2.2.2, .ref ok, .int km.2, .int qm.1, .int qm.2.1, .int qm.2.2.1, .int qm.2.2.2, .int bd, .int u_8.1, .int u_8.2.1, .int u_8.2.2.1, .int u_8.2.2.2])), (ob, .inl (cZ, 5200, .inl bm.1)), (ok, .inl (cK, 600, .inl km.1))] := hD
                refine lv_aload_n hx hb dX3_skip_184 rfl (lv_at hl 3 rfl) ?_
                refine lv_iconst (v := 0) hx hb dX3_skip_185 (by decide) ?_
                refine va_put (D := (dC, dI)) (ci := 3) (v := .int 0) (ty := .int) (C := RX3) (T := TX3) (N := 19) hx hb hts inGX3 tyX3 tyX3_ok nmX3 hown hK hP hD hS 0 rfl rfl 17 (by decide) (hts _ wd454) (fun _ h9 => h9) rfl (by decide +kernel) rfl rfl (Nat.le_of_ble_eq_true rfl) dX3_skip_186 (fun H locs hP hD hS => ?_)
                have hP : va_P (dC, dI) vwCl [(om, .inr (3, [.int th, .int st, .int lo, .ref ob, .int bm.2.1, .int bm.2.2.1, .int bm.2.2.2.1, .int bm.2.2.2.2, .ref ok, .int km.2, .int qm.1, .int qm.2.1, .int qm.2.2.1, .int qm.2.2.2, .int bd, .int u_8.1, .int u_8.2.1, .int 0, .int u_8.2.2.2])), (ob, .inl (cZ, 5200, .inl bm.1)), (ok, .inl (cK, 600, .inl km.1))] H := hP
                have hD : va_D A [(om, .inr (3, [.int th, .int st, .int lo, .ref ob, .int bm.2.1, .int bm.2.2.1, .int bm.2.2.2.1, .int bm.2.2.2.2, .ref ok, .int km.2, .int qm.1, .int qm.2.1, .int qm.2.2.1, .int qm.2.2.2, .int bd, .int u_8.1, .int u_8.2.1, .int 0, .int u_8.2.2.2])), (ob, .inl (cZ, 5200, .inl bm.1)), (ok, .inl (cK, 600, .inl km.1))] := hD
                refine lv_goto (tgt := 20) hx hb dX3_skip_189 (by decide) ?_
                exact ih th bm km qm bd (u_8.1, u_8.2.1, 0, u_8.2.2.2) i_5 (hf.2.2 _ _ (ssX3_skip_20_4 st lo th bm km qm bd ym nn c_27 c_50 _ hw_2 _ hw_3 _ ei_5 c_125 c_146 c_157 c_167 _ ef_6 _ hw_7)) ((plX3_skip_l20_3 st lo n th bm km qm bd ym nn c_27 c_50 _ hw_2 _ hw_3 _ ei_5 c_125 c_146 c_157 c_167 _ ef_6 _ hw_7).trans hz) _ _ (hP.sub (ws' := [(om, .inr (3, [.int th, .int st, .int lo, .ref ob, .int bm.2.1, .int bm.2.2.1, .int bm.2.2.2.1, .int bm.2.2.2.2, .ref ok, .int km.2, .int qm.1, .int qm.2.1, .int qm.2.2.1, .int qm.2.2.2, .int bd, .int ((u_8.1, u_8.2.1, 0, u_8.2.2.2).1), .int ((u_8.1, u_8.2.1, 0, u_8.2.2.2).2.1), .int ((u_8.1, u_8.2.1, 0, u_8.2.2.2).2.2.1), .int ((u_8.1, u_8.2.1, 0, u_8.2.2.2).2.2.2)])), (ob, .inl (cZ, 5200, .inl bm.1)), (ok, .inl (cK, 600, .inl km.1))]) [0, 1, 2] rfl) (hD.sub (ws' := [(om, .inr (3, [.int th, .int st, .int lo, .ref ob, .int bm.2.1, .int bm.2.2.1, .int bm.2.2.2.1, .int bm.2.2.2.2, .ref ok, .int km.2, .int qm.1, .int qm.2.1, .int qm.2.2.1, .int qm.2.2.2, .int bd, .int ((u_8.1, u_8.2.1, 0, u_8.2.2.2).1), .int ((u_8.1, u_8.2.1, 0, u_8.2.2.2).2.1), .int ((u_8.1, u_8.2.1, 0, u_8.2.2.2).2.2.1), .int ((u_8.1, u_8.2.1, 0, u_8.2.2.2).2.2.2)])), (ob, .inl (cZ, 5200, .inl bm.1)), (ok, .inl (cK, 600, .inl km.1))]) [0, 1, 2] (by decide) rfl) hS ls (lv_sub hl [3, 0] rfl)
        · refine lv_aload_n hx hb dX3_skip_128 rfl (lv_at hl 3 rfl) ?_
          refine va_get (D := (dC, dI)) (ci := 3) (v := .int u_4.2.2.1) (C := RX3) (T := TX3) (N := 19) hx hb hts inGX3 hown hK hP 0 rfl rfl 17 (by decide) (hts _ wd454) (fun _ h9 => h9) rfl dX3_skip_129 ?_
          refine lv_iconst (v := 1) hx hb dX3_skip_132 (by decide) ?_
          refine lv_iadd hx hb dX3_skip_133 ?_
          refine lv_goto (tgt := 138) hx hb dX3_skip_134 (by decide) ?_
          refine lv_topi (fun f_9 ef_9 => ?_)
          refine va_put (D := (dC, dI)) (ci := 3) (v := .int f_9) (ty := .int) (C := RX3) (T := TX3) (N := 19) hx hb hts inGX3 tyX3 tyX3_ok nmX3 hown hK hP hD hS 0 rfl rfl 17 (by decide) (hts _ wd454) (fun _ h9 => h9) rfl (by decide +kernel) rfl rfl (Nat.le_of_ble_eq_true rfl) dX3_skip_138 (fun H locs hP hD hS => ?_)
          have hP : va_P (dC, dI) vwCl [(om, .inr (3, [.int th, .int st, .int lo, .ref ob, .int bm.2.1, .int bm.2.2.1, .int bm.2.2.2.1, .int bm.2.2.2.2, .ref ok, .int km.2, .int qm.1, .int qm.2.1, .int qm.2.2.1, .int qm.2.2.2, .int bd, .int u_4.1, .int u_4.2.1, .int f_9, .int u_4.2.2.2])), (ob, .inl (cZ, 5200, .inl bm.1)), (ok, .inl (cK, 600, .inl km.1))] H := hP
          have hD : va_D A [(om, .inr (3, [.int th, .int st, .int lo, .ref ob, .int bm.2.1, .int bm.2.2.1, .int bm.2.2.2.1, .int bm.2.2.2.2, .ref ok, .int km.2, .int qm.1, .int qm.2.1, .int qm.2.2.1, .int qm.2.2.2, .int bd, .int u_4.1, .int u_4.2.1, .int f_9, .int u_4.2.2.2])), (ob, .inl (cZ, 5200, .inl bm.1)), (ok, .inl (cK, 600, .inl km.1))] := hD
          refine lv_aload_n hx hb dX3_skip_141 rfl (lv_at hl 3 rfl) ?_
          refine va_get (D := (dC, dI)) (ci := 3) (v := .int st) (C := RX3) (T := TX3) (N := 19) hx hb hts inGX3 hown hK hP 0 rfl rfl 1 (by decide) (hts _ wd438) (fun _ h9 => h9) rfl dX3_skip_142 ?_
          refine lv_iconst (v := 1) hx hb dX3_skip_145 (by decide) ?_
          refine lv_icmp_le (tgt := 189) hx hb dX3_skip_146 (by decide) (fun c_146 => ?_) (fun c_146 => ?_)
          · refine lv_goto (tgt := 20) hx hb dX3_skip_189 (by decide) ?_
            exact ih th bm km qm bd (u_4.1, u_4.2.1, f_9, u_4.2.2.2) i_5 (hf.2.2 _ _ (ssX3_skip_20_5 st lo th bm km qm bd ym nn c_27 c_50 _ hw_2 _ hw_3 _ ei_5 c_125 _ ef_9 c_146)) ((plX3_skip_l20_4 st lo n th bm km qm bd ym nn c_27 c_50 _ hw_2 _ hw_3 _ ei_5 c_125 _ ef_9 c_146).trans hz) _ _ (hP.sub (ws' := [(om, .inr (3, [.int th, .int st, .int lo, .ref ob, .int bm.2.1, .int bm.2.2.1, .int bm.2.2.2.1, .int bm.2.2.2.2, .ref ok, .int km.2, .int qm.1, .int qm.2.1, .int qm.2.2.1, .int qm.2.2.2, .int bd, .int ((u_4.1, u_4.2.1, f_9, u_4.2.2.2).1), .int ((u_4.1, u_4.2.1, f_9, u_4.2.2.2).2.1), .int ((u_4.1, u_4.2.1, f_9, u_4.2.2.2).2.2.1), .int ((u_4.1, u_4.2.1, f_9, u_4.2.2.2).2.2.2)])), (ob, .inl (cZ, 5200, .inl bm.1)), (ok, .inl (cK, 600, .inl km.1))]) [0, 1, 2] rfl) (hD.sub (ws' := [(om, .inr (3, [.int th, .int st, .int lo, .ref ob, .int bm.2.1, .int bm.2.2.1, .int bm.2.2.2.1, .int bm.2.2.2.2, .ref ok, .int km.2, .int qm.1, .int qm.2.1, .int qm.2.2.1, .int qm.2.2.2, .int bd, .int ((u_4.1, u_4.2.1, f_9, u_4.2.2.2).1), .int ((u_4.1, u_4.2.1, f_9, u_4.2.2.2).2.1), .int ((u_4.1, u_4.2.1, f_9, u_4.2.2.2).2.2.1), .int ((u_4.1, u_4.2.1, f_9, u_4.2.2.2).2.2.2)])), (ob, .inl (cZ, 5200, .inl bm.1)), (ok, .inl (cK, 600, .inl km.1))]) [0, 1, 2] (by decide) rfl) hS ls (lv_sub hl [3, 0] rfl)
          · refine lv_aload_n hx hb dX3_skip_149 rfl (lv_at hl 3 rfl) ?_
            refine va_get (D := (dC, dI)) (ci := 3) (v := .int f_9) (C := RX3) (T := TX3) (N := 19) hx hb hts inGX3 hown hK hP 0 rfl rfl 17 (by decide) (hts _ wd454) (fun _ h9 => h9) rfl dX3_skip_150 ?_
            refine lv_aload_n hx hb dX3_skip_153 rfl (lv_at hl 3 rfl) ?_
            refine va_get (D := (dC, dI)) (ci := 3) (v := .int st) (C := RX3) (T := TX3) (N := 19) hx hb hts inGX3 hown hK hP 0 rfl rfl 1 (by decide) (hts _ wd438) (fun _ h9 => h9) rfl dX3_skip_154 ?_
            refine lv_icmp_ne (tgt := 189) hx hb dX3_skip_157 (by decide) (fun c_157 => ?_) (fun c_157 => ?_)
            · refine lv_goto (tgt := 20) hx hb dX3_skip_189 (by decide) ?_
              exact ih th bm km qm bd (u_4.1, u_4.2.1, f_9, u_4.2.2.2) i_5 (hf.2.2 _ _ (ssX3_skip_20_6 st lo th bm km qm bd ym nn c_27 c_50 _ hw_2 _ hw_3 _ ei_5 c_125 _ ef_9 c_146 c_157)) ((plX3_skip_l20_5 st lo n th bm km qm bd ym nn c_27 c_50 _ hw_2 _ hw_3 _ ei_5 c_125 _ ef_9 c_146 c_157).trans hz) _ _ (hP.sub (ws' := [(om, .inr (3, [.int th, .int st, .int lo, .ref ob, .int bm.2.1, .int bm.2.2.1, .int bm.2.2.2.1, .int bm.2.2.2.2, .ref ok, .int km.2, .int qm.1, .int qm.2.1, .int qm.2.2.1, .int qm.2.2.2, .int bd, .int ((u_4.1, u_4.2.1, f_9, u_4.2.2.2).1), .int ((u_4.1, u_4.2.1, f_9, u_4.2.2.2).2.1), .int ((u_4.1, u_4.2.1, f_9, u_4.2.2.2).2.2.1), .int ((u_4.1, u_4.2.1, f_9, u_4.2.2.2).2.2.2)])), (ob, .inl (cZ, 5200, .inl bm.1)), (ok, .inl (cK, 600, .inl km.1))]) [0, 1, 2] rfl) (hD.sub (ws' := [(om, .inr (3, [.int th, .int st, .int lo, .ref ob, .int bm.2.1, .int bm.2.2.1, .int bm.2.2.2.1, .int bm.2.2.2.2, .ref ok, .int km.2, .int qm.1, .int qm.2.1, .int qm.2.2.1, .int qm.2.2.2, .int bd, .int ((u_4.1, u_4.2.1, f_9, u_4.2.2.2).1), .int ((u_4.1, u_4.2.1, f_9, u_4.2.2.2).2.1), .int ((u_4.1, u_4.2.1, f_9, u_4.2.2.2).2.2.1), .int ((u_4.1, u_4.2.1, f_9, u_4.2.2.2).2.2.2)])), (ob, .inl (cZ, 5200, .inl bm.1)), (ok, .inl (cK, 600, .inl km.1))]) [0, 1, 2] (by decide) rfl) hS ls (lv_sub hl [3, 0] rfl)
            · refine lv_aload_n hx hb dX3_skip_160 rfl (lv_at hl 3 rfl) ?_
              refine va_get (D := (dC, dI)) (ci := 3) (v := .int u_4.1) (C := RX3) (T := TX3) (N := 19) hx hb hts inGX3 hown hK hP 0 rfl rfl 15 (by decide) (hts _ wd452) (fun _ h9 => h9) rfl dX3_skip_161 ?_
              refine lv_bipush (v := 8) hx hb dX3_skip_164 (by decide) ?_
              refine lv_irem hx hb dX3_skip_166 (by decide) ?_
              refine lv_if_eq (tgt := 189) hx hb dX3_skip_167 (by decide) (fun c_167 => ?_) (fun c_167 => ?_)
              · refine lv_goto (tgt := 20) hx hb dX3_skip_189 (by decide) ?_
                exact ih th bm km qm bd (u_4.1, u_4.2.1, f_9, u_4.2.2.2) i_5 (hf.2.2 _ _ (ssX3_skip_20_7 st lo th bm km qm bd ym nn c_27 c_50 _ hw_2 _ hw_3 _ ei_5 c_125 _ ef_9 c_146 c_157 c_167)) ((plX3_skip_l20_6 st lo n th bm km qm bd ym nn c_27 c_50 _ hw_2 _ hw_3 _ ei_5 c_125 _ ef_9 c_146 c_157 c_167).trans hz) _ _ (hP.sub (ws' := [(om, .inr (3, [.int th, .int st, .int lo, .ref ob, .int bm.2.1, .int bm.2.2.1, .int bm.2.2.2.1, .int bm.2.2.2.2, .ref ok, .int km.2, .int qm.1, .int qm.2.1, .int qm.2.2.1, .int qm.2.2.2, .int bd, .int ((u_4.1, u_4.2.1, f_9, u_4.2.2.2).1), .int ((u_4.1, u_4.2.1, f_9, u_4.2.2.2).2.1), .int ((u_4.1, u_4.2.1, f_9, u_4.2.2.2).2.2.1), .int ((u_4.1, u_4.2.1, f_9, u_4.2.2.2).2.2.2)])), (ob, .inl (cZ, 5200, .inl bm.1)), (ok, .inl (cK, 600, .inl km.1))]) [0, 1, 2] rfl) (hD.sub (ws' := [(om, .inr (3, [.int th, .int st, .int lo, .ref ob, .int bm.2.1, .int bm.2.2.1, .int bm.2.2.2.1, .int bm.2.2.2.2, .ref ok, .int km.2, .int qm.1, .int qm.2.1, .int qm.2.2.1, .int qm.2.2.2, .int bd, .int ((u_4.1, u_4.2.1, f_9, u_4.2.2.2).1), .int ((u_4.1, u_4.2.1, f_9, u_4.2.2.2).2.1), .int ((u_4.1, u_4.2.1, f_9, u_4.2.2.2).2.2.1), .int ((u_4.1, u_4.2.1, f_9, u_4.2.2.2).2.2.2)])), (ob, .inl (cZ, 5200, .inl bm.1)), (ok, .inl (cK, 600, .inl km.1))]) [0, 1, 2] (by decide) rfl) hS ls (lv_sub hl [3, 0] rfl)
              · refine lv_aload_n hx hb dX3_skip_170 rfl (lv_at hl 3 rfl) ?_
                refine lv_dup hx hb dX3_skip_171 rfl ?_
                refine va_get (D := (dC, dI)) (ci := 3) (v := .int u_4.2.1) (C := RX3) (T := TX3) (N := 19) hx hb hts inGX3 hown hK hP 0 rfl rfl 16 (by decide) (hts _ wd453) (fun _ h9 => h9) rfl dX3_skip_172 ?_
                refine lv_iconst (v := 1) hx hb dX3_skip_175 (by decide) ?_
                refine lv_iadd hx hb dX3_skip_176 ?_
                refine lv_topi (fun f_10 ef_10 => ?_)
                refine va_put (D := (dC, dI)) (ci := 3) (v := .int f_10) (ty := .int) (C := RX3) (T := TX3) (N := 19) hx hb hts inGX3 tyX3 tyX3_ok nmX3 hown hK hP hD hS 0 rfl rfl 16 (by decide) (hts _ wd453) (fun _ h9 => h9) rfl (by decide +kernel) rfl rfl (Nat.le_of_ble_eq_true rfl) dX3_skip_177 (fun H locs hP hD hS => ?_)
                have hP : va_P (dC, dI) vwCl [(om, .inr (3, [.int th, .int st, .int lo, .ref ob, .int bm.2.1, .int bm.2.2.1, .int bm.2.2.2.1, .int bm.2.2.2.2, .ref ok, .int km.2, .int qm.1, .int qm.2.1, .int qm.2.2.1, .int qm.2.2.2, .int bd, .int u_4.1, .int f_10, .int f_9, .int u_4.2.2.2])), (ob, .inl (cZ, 5200, .inl bm.1)), (ok, .inl (cK, 600, .inl km.1))] H := hP
                have hD : va_D A [(om, .inr (3, [.int th, .int st, .int lo, .ref ob, .int bm.2.1, .int bm.2.2.1, .int bm.2.2.2.1, .int bm.2.2.2.2, .ref ok, .int km.2, .int qm.1, .int qm.2.1, .int qm.2.2.1, .int qm.2.2.2, .int bd, .int u_4.1, .int f_10, .int f_9, .int u_4.2.2.2])), (ob, .inl (cZ, 5200, .inl bm.1)), (ok, .inl (cK, 600, .inl km.1))] := hD
                refine lv_aload_n hx hb dX3_skip_180 rfl (lv_at hl 3 rfl) ?_
                have hPc := hP.sub (ws' := [(om, .inr (3, [.int th, .int st, .int lo, .ref ob, .int bm.2.1, .int bm.2.2.1, .int bm.2.2.2.1, .int bm.2.2.2.2, .ref ok, .int km.2, .int qm.1, .int qm.2.1, .int qm.2.2.1, .int qm.2.2.2, .int bd, .int u_4.1, .int f_10, .int f_9, .int u_4.2.2.2])), (ob, .inl (cZ, 5200, .inl bm.1)), (ok, .inl (cK, 600, .inl km.1))]) [0, 1, 2] rfl
                have hKc := hK.sub (tys' := [(cZ, .boolean), (cK, .int)]) [0, 1] rfl
                have hDc := hD.sub (ws' := [(om, .inr (3, [.int th, .int st, .int lo, .ref ob, .int bm.2.1, .int bm.2.2.1, .int bm.2.2.2.1, .int bm.2.2.2.2, .ref ok, .int km.2, .int qm.1, .int qm.2.1, .int qm.2.2.1, .int qm.2.2.2, .int bd, .int u_4.1, .int f_10, .int f_9, .int u_4.2.2.2])), (ob, .inl (cZ, 5200, .inl bm.1)), (ok, .inl (cK, 600, .inl km.1))]) [0, 1, 2] (by decide) rfl
                have hFc := va_free (wc := [(om, .inr (3, [.int th, .int st, .int lo, .ref ob, .int bm.2.1, .int bm.2.2.1, .int bm.2.2.2.1, .int bm.2.2.2.2, .ref ok, .int km.2, .int qm.1, .int qm.2.1, .int qm.2.2.1, .int qm.2.2.2, .int bd, .int u_4.1, .int f_10, .int f_9, .int u_4.2.2.2])), (ob, .inl (cZ, 5200, .inl bm.1)), (ok, .inl (cK, 600, .inl km.1))]) hD hS hA [0, 1, 2] rfl
                refine va_callv (va_runV (As := []) (rest := []) ⟨hx, hb, hml, hown, hts⟩ (mX3_goOn l dC dI cZ cK om ob ok H.size st lo th bm km qm bd (u_4.1, f_10, f_9, u_4.2.2.2) (sk_tT hf.1 (by first | exact hf.2.1 (Or.inl c_27) | exact hf.2.1 (Or.inr ⟨c_35, c_42⟩)) (by assumption) c_167)) (cwV 0 hts (gV wd572 wd573 wd22 wd30 wd574) rfl rfl rfl (by decide +kernel) ⟨Nat.le_of_ble_eq_true rfl, Nat.le_of_ble_eq_true rfl⟩) ⟨fb_rw, va_recv hKc hPc (ci := 3) (q0 := 0) rfl rfl, pre_rw hPc hKc hDc hZ⟩ rfl rfl hl.1 rfl (lv_room (Nat.le_of_ble_eq_true rfl)) dX3_skip_181 ⟨Nat.le_of_ble_eq_true rfl, Nat.le_of_ble_eq_true rfl⟩) hS (fun q _ h => hFc q h) hFc (fun u_12 t H1 locs ht hvm hw_11 hB hz1 hk1 hS => ?_)
                obtain ⟨hP1, hD1⟩ := hB
                rw [ht] at hP1
                obtain ⟨hP, hD⟩ := va_join (wr := []) (w1 := [(om, .inr (3, [.int th, .int st, .int lo, .ref ob, .int bm.2.1, .int bm.2.2.1, .int bm.2.2.2.1, .int bm.2.2.2.2, .ref ok, .int km.2, .int qm.1, .int qm.2.1, .int qm.2.2.1, .int qm.2.2.2, .int bd, .int u_12.1, .int u_12.2.1, .int u_12.2.2.1, .int u_12.2.2.2])), (ob, .inl (cZ, 5200, .inl bm.1)), (ok, .inl (cK, 600, .inl km.1))]) hP hD [0, 1, 2] [] rfl rfl (by decide) (by decide) hk1 hFc hP1 hD1
                generalize H1 = H at hP hS ⊢
                have hP : va_P (dC, dI) vwCl [(om, .inr (3, [.int th, .int st, .int lo, .ref ob, .int bm.2.1, .int bm.2.2.1, .int bm.2.2.2.1, .int bm.2.2.2.2, .ref ok, .int km.2, .int qm.1, .int qm.2.1, .int qm.2.2.1, .int qm.2.2.2, .int bd, .int u_12.1, .int u_12.2.1, .int u_12.2.2.1, .int u_12.2.2.2])), (ob, .inl (cZ, 5200, .inl bm.1)), (ok, .inl (cK, 600, .inl km.1))] H := hP
                have hD : va_D A [(om, .inr (3, [.int th, .int st, .int lo, .ref ob, .int bm.2.1, .int bm.2.2.1, .int bm.2.2.2.1, .int bm.2.2.2.2, .ref ok, .int km.2, .int qm.1, .int qm.2.1, .int qm.2.2.1, .int qm.2.2.2, .int bd, .int u_12.1, .int u_12.2.1, .int u_12.2.2.1, .int u_12.2.2.2])), (ob, .inl (cZ, 5200, .inl bm.1)), (ok, .inl (cK, 600, .inl km.1))] := hD
                refine lv_aload_n hx hb dX3_skip_184 rfl (lv_at hl 3 rfl) ?_
                refine lv_iconst (v := 0) hx hb dX3_skip_185 (by decide) ?_
                refine va_put (D := (dC, dI)) (ci := 3) (v := .int 0) (ty := .int) (C := RX3) (T := TX3) (N := 19) hx hb hts inGX3 tyX3 tyX3_ok nmX3 hown hK hP hD hS 0 rfl rfl 17 (by decide) (hts _ wd454) (fun _ h9 => h9) rfl (by decide +kernel) rfl rfl (Nat.le_of_ble_eq_true rfl) dX3_skip_186 (fun H locs hP hD hS => ?_)
                have hP : va_P (dC, dI) vwCl [(om, .inr (3, [.int th, .int st, .int lo, .ref ob, .int bm.2.1, .int bm.2.2.1, .int bm.2.2.2.1, .int bm.2.2.2.2, .ref ok, .int km.2, .int qm.1, .int qm.2.1, .int qm.2.2.1, .int qm.2.2.2, .int bd, .int u_12.1, .int u_12.2.1, .int 0, .int u_12.2.2.2])), (ob, .inl (cZ, 5200, .inl bm.1)), (ok, .inl (cK, 600, .inl km.1))] H := hP
                have hD : va_D A [(om, .inr (3, [.int th, .int st, .int lo, .ref ob, .int bm.2.1, .int bm.2.2.1, .int bm.2.2.2.1, .int bm.2.2.2.2, .ref ok, .int km.2, .int qm.1, .int qm.2.1, .int qm.2.2.1, .int qm.2.2.2, .int bd, .int u_12.1, .int u_12.2.1, .int 0, .int u_12.2.2.2])), (ob, .inl (cZ, 5200, .inl bm.1)), (ok, .inl (cK, 600, .inl km.1))] := hD
                refine lv_goto (tgt := 20) hx hb dX3_skip_189 (by decide) ?_
                exact ih th bm km qm bd (u_12.1, u_12.2.1, 0, u_12.2.2.2) i_5 (hf.2.2 _ _ (ssX3_skip_20_8 st lo th bm km qm bd ym nn c_27 c_50 _ hw_2 _ hw_3 _ ei_5 c_125 _ ef_9 c_146 c_157 c_167 _ ef_10 _ hw_11)) ((plX3_skip_l20_7 st lo n th bm km qm bd ym nn c_27 c_50 _ hw_2 _ hw_3 _ ei_5 c_125 _ ef_9 c_146 c_157 c_167 _ ef_10 _ hw_11).trans hz) _ _ (hP.sub (ws' := [(om, .inr (3, [.int th, .int st, .int lo, .ref ob, .int bm.2.1, .int bm.2.2.1, .int bm.2.2.2.1, .int bm.2.2.2.2, .ref ok, .int km.2, .int qm.1, .int qm.2.1, .int qm.2.2.1, .int qm.2.2.2, .int bd, .int ((u_12.1, u_12.2.1, 0, u_12.2.2.2).1), .int ((u_12.1, u_12.2.1, 0, u_12.2.2.2).2.1), .int ((u_12.1, u_12.2.1, 0, u_12.2.2.2).2.2.1), .int ((u_12.1, u_12.2.1, 0, u_12.2.2.2).2.2.2)])), (ob, .inl (cZ, 5200, .inl bm.1)), (ok, .inl (cK, 600, .inl km.1))]) [0, 1, 2] rfl) (hD.sub (ws' := [(om, .inr (3, [.int th, .int st, .int lo, .ref ob, .int bm.2.1, .int bm.2.2.1, .int bm.2.2.2.1, .int bm.2.2.2.2, .ref ok, .int km.2, .int qm.1, .int qm.2.1, .int qm.2.2.1, .int qm.2.2.2, .int bd, .int ((u_12.1, u_12.2.1, 0, u_12.2.2.2).1), .int ((u_12.1, u_12.2.1, 0, u_12.2.2.2).2.1), .int ((u_12.1, u_12.2.1, 0, u_12.2.2.2).2.2.1), .int ((u_12.1, u_12.2.1, 0, u_12.2.2.2).2.2.2)])), (ob, .inl (cZ, 5200, .inl bm.1)), (ok, .inl (cK, 600, .inl km.1))]) [0, 1, 2] (by decide) rfl) hS ls (lv_sub hl [3, 0] rfl)
      · refine lv_aload_n hx hb dX3_skip_53 rfl (lv_at hl 0 rfl) ?_
        refine va_get (D := (dC, dI)) (ci := 3) (v := .int ym.2.2.2) (C := RX3) (T := TX3) (N := 19) hx hb hts inGX3 hown hK hP 0 rfl rfl 18 (by decide) (hts _ wd455) (fun _ h9 => h9) rfl dX3_skip_54 ?_
        refine lv_if_eq (tgt := 87) hx hb dX3_skip_57 (by decide) (fun c_57 => ?_) (fun c_57 => ?_)
        · refine lv_iconst (v := 0) hx hb dX3_skip_87 (by decide) ?_
          refine lv_istore_n (lv' := [(2, .int 0), (0, .ref om), (1, .int nn)]) hx hb dX3_skip_88 rfl hl (by decide) rfl (fun ls hl => ?_)
          refine lv_aload_n hx hb dX3_skip_89 rfl (lv_at hl 1 rfl) ?_
          refine lv_aload_n hx hb dX3_skip_90 rfl (lv_at hl 1 rfl) ?_
          refine va_get (D := (dC, dI)) (ci := 3) (v := .int ym.1) (C := RX3) (T := TX3) (N := 19) hx hb hts inGX3 hown hK hP 0 rfl rfl 15 (by decide) (hts _ wd452) (fun _ h9 => h9) rfl dX3_skip_91 ?_
          have hPc := hP.sub (ws' := [(om, .inr (3, [.int th, .int st, .int lo, .ref ob, .int bm.2.1, .int bm.2.2.1, .int bm.2.2.2.1, .int bm.2.2.2.2, .ref ok, .int km.2, .int qm.1, .int qm.2.1, .int qm.2.2.1, .int qm.2.2.2, .int bd, .int ym.1, .int ym.2.1, .int ym.2.2.1, .int ym.2.2.2])), (ob, .inl (cZ, 5200, .inl bm.1)), (ok, .inl (cK, 600, .inl km.1))]) [0, 1, 2] rfl
          have hKc := hK.sub (tys' := [(cZ, .boolean), (cK, .int)]) [0, 1] rfl
          refine vp_callSi (va_Run.run (va_runV (As := [.int ym.1]) (rest := []) ⟨hx, hb, hml, hown, hts⟩ (mX3_bitAt l dC dI cZ cK om ob ok st lo th bm km qm bd ym ym.1 (t_in (by first | exact hf.2.1 (Or.inl c_27) | exact hf.2.1 (Or.inr ⟨c_35, c_42⟩)))) (cwV 1 hts (gV wd569 wd570 wd21 wd30 wd571) rfl rfl rfl (by decide +kernel) ⟨Nat.le_of_ble_eq_true rfl, Nat.le_of_ble_eq_true rfl⟩) ⟨fb_ro, va_recv hKc hPc (ci := 3) (q0 := 0) rfl rfl, pre_ro hPc hKc hZ⟩ rfl rfl hl.1 rfl (lv_room (Nat.le_of_ble_eq_true rfl)) dX3_skip_94 ⟨Nat.le_of_ble_eq_true rfl, Nat.le_of_ble_eq_true rfl⟩)) (fun r_13 hw_14 => ?_)
          refine lv_istore_n (lv' := [(3, .int r_13), (2, .int 0), (0, .ref om), (1, .int nn)]) hx hb dX3_skip_97 rfl hl (by decide) rfl (fun ls hl => ?_)
          refine lv_aload_n hx hb dX3_skip_98 rfl (lv_at hl 2 rfl) ?_
          have hPc := hP.sub (ws' := [(om, .inr (3, [.int th, .int st, .int lo, .ref ob, .int bm.2.1, .int bm.2.2.1, .int bm.2.2.2.1, .int bm.2.2.2.2, .ref ok, .int km.2, .int qm.1, .int qm.2.1, .int qm.2.2.1, .int qm.2.2.2, .int bd, .int ym.1, .int ym.2.1, .int ym.2.2.1, .int ym.2.2.2])), (ob, .inl (cZ, 5200, .inl bm.1)), (ok, .inl (cK, 600, .inl km.1))]) [0, 1, 2] rfl
          have hKc := hK.sub (tys' := [(cZ, .boolean), (cK, .int)]) [0, 1] rfl
          have hDc := hD.sub (ws' := [(om, .inr (3, [.int th, .int st, .int lo, .ref ob, .int bm.2.1, .int bm.2.2.1, .int bm.2.2.2.1, .int bm.2.2.2.2, .ref ok, .int km.2, .int qm.1, .int qm.2.1, .int qm.2.2.1, .int qm.2.2.2, .int bd, .int ym.1, .int ym.2.1, .int ym.2.2.1, .int ym.2.2.2])), (ob, .inl (cZ, 5200, .inl bm.1)), (ok, .inl (cK, 600, .inl km.1))]) [0, 1, 2] (by decide) rfl
          have hFc := va_free (wc := [(om, .inr (3, [.int th, .int st, .int lo, .ref ob, .int bm.2.1, .int bm.2.2.1, .int bm.2.2.2.1, .int bm.2.2.2.2, .ref ok, .int km.2, .int qm.1, .int qm.2.1, .int qm.2.2.1, .int qm.2.2.2, .int bd, .int ym.1, .int ym.2.1, .int ym.2.2.1, .int ym.2.2.2])), (ob, .inl (cZ, 5200, .inl bm.1)), (ok, .inl (cK, 600, .inl km.1))]) hD hS hA [0, 1, 2] rfl
          refine va_callv (va_runV (As := []) (rest := []) ⟨hx, hb, hml, hown, hts⟩ (mX3_goOn l dC dI cZ cK om ob ok H.size st lo th bm km qm bd ym (by first | exact hf.2.1 (Or.inl c_27) | exact hf.2.1 (Or.inr ⟨c_35, c_42⟩))) (cwV 0 hts (gV wd572 wd573 wd22 wd30 wd574) rfl rfl rfl (by decide +kernel) ⟨Nat.le_of_ble_eq_true rfl, Nat.le_of_ble_eq_true rfl⟩) ⟨fb_rw, va_recv hKc hPc (ci := 3) (q0 := 0) rfl rfl, pre_rw hPc hKc hDc hZ⟩ rfl rfl hl.1 rfl (lv_room (Nat.le_of_ble_eq_true rfl)) dX3_skip_99 ⟨Nat.le_of_ble_eq_true rfl, Nat.le_of_ble_eq_true rfl⟩) hS (fun q _ h => hFc q h) hFc (fun u_16 t H1 locs ht hvm hw_15 hB hz1 hk1 hS => ?_)
          obtain ⟨hP1, hD1⟩ := hB
          rw [ht] at hP1
          obtain ⟨hP, hD⟩ := va_join (wr := []) (w1 := [(om, .inr (3, [.int th, .int st, .int lo, .ref ob, .int bm.2.1, .int bm.2.2.1, .int bm.2.2.2.1, .int bm.2.2.2.2, .ref ok, .int km.2, .int qm.1, .int qm.2.1, .int qm.2.2.1, .int qm.2.2.2, .int bd, .int u_16.1, .int u_16.2.1, .int u_16.2.2.1, .int u_16.2.2.2])), (ob, .inl (cZ, 5200, .inl bm.1)), (ok, .inl (cK, 600, .inl km.1))]) hP hD [0, 1, 2] [] rfl rfl (by decide) (by decide) hk1 hFc hP1 hD1
          generalize H1 = H at hP hS ⊢
          have hP : va_P (dC, dI) vwCl [(om, .inr (3, [.int th, .int st, .int lo, .ref ob, .int bm.2.1, .int bm.2.2.1, .int bm.2.2.2.1, .int bm.2.2.2.2, .ref ok, .int km.2, .int qm.1, .int qm.2.1, .int qm.2.2.1, .int qm.2.2.2, .int bd, .int u_16.1, .int u_16.2.1, .int u_16.2.2.1, .int u_16.2.2.2])), (ob, .inl (cZ, 5200, .inl bm.1)), (ok, .inl (cK, 600, .inl km.1))] H := hP
          have hD : va_D A [(om, .inr (3, [.int th, .int st, .int lo, .ref ob, .int bm.2.1, .int bm.2.2.1, .int bm.2.2.2.1, .int bm.2.2.2.2, .ref ok, .int km.2, .int qm.1, .int qm.2.1, .int qm.2.2.1, .int qm.2.2.2, .int bd, .int u_16.1, .int u_16.2.1, .int u_16.2.2.1, .int u_16.2.2.2])), (ob, .inl (cZ, 5200, .inl bm.1)), (ok, .inl (cK, 600, .inl km.1))] := hD
          refine lv_iload_n hx hb dX3_skip_102 rfl (lv_at hl 1 rfl) ?_
          refine lv_if_eq (tgt := 119) hx hb dX3_skip_103 (by decide) (fun c_103 => ?_) (fun c_103 => absurd c_103 (by decide))
          obtain ⟨i_17, ei_17⟩ : ∃ y : Int32, y = nn + 1 := ⟨_, rfl⟩
          refine lv_iinc (v := i_17) (lv' := [(1, .int i_17), (3, .int r_13), (2, .int 0), (0, .ref om)]) hx hb dX3_skip_119 hl (k := 3) rfl (by rw [ei_17]; rfl) (by decide) rfl (fun ls hl => ?_)
          refine lv_aload_n hx hb dX3_skip_122 rfl (lv_at hl 3 rfl) ?_
          refine lv_iload_n hx hb dX3_skip_123 rfl (lv_at hl 1 rfl) ?_
          refine lv_iconst (v := 1) hx hb dX3_skip_124 (by decide) ?_
          refine lv_icmp_ne (tgt := 137) hx hb dX3_skip_125 (by decide) (fun c_125 => ?_) (fun c_125 => ?_)
          · refine lv_iconst (v := 0) hx hb dX3_skip_137 (by decide) ?_
            refine va_put (D := (dC, dI)) (ci := 3) (v := .int 0) (ty := .int) (C := RX3) (T := TX3) (N := 19) hx hb hts inGX3 tyX3 tyX3_ok nmX3 hown hK hP hD hS 0 rfl rfl 17 (by decide) (hts _ wd454) (fun _ h9 => h9) rfl (by decide +kernel) rfl rfl (Nat.le_of_ble_eq_true rfl) dX3_skip_138 (fun H locs hP hD hS => ?_)
            have hP : va_P (dC, dI) vwCl [(om, .inr (3, [.int th, .int st, .int lo, .ref ob, .int bm.2.1, .int bm.2.2.1, .int bm.2.2.2.1, .int bm.2.2.2.2, .ref ok, .int km.2, .int qm.1, .int qm.2.1, .int qm.2.2.1, .int qm.2.2.2, .int bd, .int u_16.1, .int u_16.2.1, .int 0, .int u_16.2.2.2])), (ob, .inl (cZ, 5200, .inl bm.1)), (ok, .inl (cK, 600, .inl km.1))] H := hP
            have hD : va_D A [(om, .inr (3, [.int th, .int st, .int lo, .ref ob, .int bm.2.1, .int bm.2.2.1, .int bm.2.2.2.1, .int bm.2.2.2.2, .ref ok, .int km.2, .int qm.1, .int qm.2.1, .int qm.2.2.1, .int qm.2.2.2, .int bd, .int u_16.1, .int u_16.2.1, .int 0, .int u_16.2.2.2])), (ob, .inl (cZ, 5200, .inl bm.1)), (ok, .inl (cK, 600, .inl km.1))] := hD
            refine lv_aload_n hx hb dX3_skip_141 rfl (lv_at hl 3 rfl) ?_
            refine va_get (D := (dC, dI)) (ci := 3) (v := .int st) (C := RX3) (T := TX3) (N := 19) hx hb hts inGX3 hown hK hP 0 rfl rfl 1 (by decide) (hts _ wd438) (fun _ h9 => h9) rfl dX3_skip_142 ?_
            refine lv_iconst (v := 1) hx hb dX3_skip_145 (by decide) ?_
            refine lv_icmp_le (tgt := 189) hx hb dX3_skip_146 (by decide) (fun c_146 => ?_) (fun c_146 => ?_)
            · refine lv_goto (tgt := 20) hx hb dX3_skip_189 (by decide) ?_
              exact ih th bm km qm bd (u_16.1, u_16.2.1, 0, u_16.2.2.2) i_17 (hf.2.2 _ _ (ssX3_skip_20_9 st lo th bm km qm bd ym nn c_27 c_50 c_57 _ hw_14 _ hw_15 _ ei_17 c_125 c_146)) ((plX3_skip_l20_8 st lo n th bm km qm bd ym nn c_27 c_50 c_57 _ hw_14 _ hw_15 _ ei_17 c_125 c_146).trans hz) _ _ (hP.sub (ws' := [(om, .inr (3, [.int th, .int st, .int lo, .ref ob, .int bm.2.1, .int bm.2.2.1, .int bm.2.2.2.1, .int bm.2.2.2.2, .ref ok, .int km.2, .int qm.1, .int qm.2.1, .int qm.2.2.1, .int qm.2.2.2, .int bd, .int ((u_16.1, u_16.2.1, 0, u_16.2.2.2).1), .int ((u_16.1, u_16.2.1, 0, u_16.2.2.2).2.1), .int ((u_16.1, u_16.2.1, 0, u_16.2.2.2).2.2.1), .int ((u_16.1, u_16.2.1, 0, u_16.2.2.2).2.2.2)])), (ob, .inl (cZ, 5200, .inl bm.1)), (ok, .inl (cK, 600, .inl km.1))]) [0, 1, 2] rfl) (hD.sub (ws' := [(om, .inr (3, [.int th, .int st, .int lo, .ref ob, .int bm.2.1, .int bm.2.2.1, .int bm.2.2.2.1, .int bm.2.2.2.2, .ref ok, .int km.2, .int qm.1, .int qm.2.1, .int qm.2.2.1, .int qm.2.2.2, .int bd, .int ((u_16.1, u_16.2.1, 0, u_16.2.2.2).1), .int ((u_16.1, u_16.2.1, 0, u_16.2.2.2).2.1), .int ((u_16.1, u_16.2.1, 0, u_16.2.2.2).2.2.1), .int ((u_16.1, u_16.2.1, 0, u_16.2.2.2).2.2.2)])), (ob, .inl (cZ, 5200, .inl bm.1)), (ok, .inl (cK, 600, .inl km.1))]) [0, 1, 2] (by decide) rfl) hS ls (lv_sub hl [3, 0] rfl)
            · refine lv_aload_n hx hb dX3_skip_149 rfl (lv_at hl 3 rfl) ?_
              refine va_get (D := (dC, dI)) (ci := 3) (v := .int 0) (C := RX3) (T := TX3) (N := 19) hx hb hts inGX3 hown hK hP 0 rfl rfl 17 (by decide) (hts _ wd454) (fun _ h9 => h9) rfl dX3_skip_150 ?_
              refine lv_aload_n hx hb dX3_skip_153 rfl (lv_at hl 3 rfl) ?_
              refine va_get (D := (dC, dI)) (ci := 3) (v := .int st) (C := RX3) (T := TX3) (N := 19) hx hb hts inGX3 hown hK hP 0 rfl rfl 1 (by decide) (hts _ wd438) (fun _ h9 => h9) rfl dX3_skip_154 ?_
              refine lv_icmp_ne (tgt := 189) hx hb dX3_skip_157 (by decide) (fun c_157 => ?_) (fun c_157 => ?_)
              · refine lv_goto (tgt := 20) hx hb dX3_skip_189 (by decide) ?_
                exact ih th bm km qm bd (u_16.1, u_16.2.1, 0, u_16.2.2.2) i_17 (hf.2.2 _ _ (ssX3_skip_20_10 st lo th bm km qm bd ym nn c_27 c_50 c_57 _ hw_14 _ hw_15 _ ei_17 c_125 c_146 c_157)) ((plX3_skip_l20_9 st lo n th bm km qm bd ym nn c_27 c_50 c_57 _ hw_14 _ hw_15 _ ei_17 c_125 c_146 c_157).trans hz) _ _ (hP.sub (ws' := [(om, .inr (3, [.int th, .int st, .int lo, .ref ob, .int bm.2.1, .int bm.2.2.1, .int bm.2.2.2.1, .int bm.2.2.2.2, .ref ok, .int km.2, .int qm.1, .int qm.2.1, .int qm.2.2.1, .int qm.2.2.2, .int bd, .int ((u_16.1, u_16.2.1, 0, u_16.2.2.2).1), .int ((u_16.1, u_16.2.1, 0, u_16.2.2.2).2.1), .int ((u_16.1, u_16.2.1, 0, u_16.2.2.2).2.2.1), .int ((u_16.1, u_16.2.1, 0, u_16.2.2.2).2.2.2)])), (ob, .inl (cZ, 5200, .inl bm.1)), (ok, .inl (cK, 600, .inl km.1))]) [0, 1, 2] rfl) (hD.sub (ws' := [(om, .inr (3, [.int th, .int st, .int lo, .ref ob, .int bm.2.1, .int bm.2.2.1, .int bm.2.2.2.1, .int bm.2.2.2.2, .ref ok, .int km.2, .int qm.1, .int qm.2.1, .int qm.2.2.1, .int qm.2.2.2, .int bd, .int ((u_16.1, u_16.2.1, 0, u_16.2.2.2).1), .int ((u_16.1, u_16.2.1, 0, u_16.2.2.2).2.1), .int ((u_16.1, u_16.2.1, 0, u_16.2.2.2).2.2.1), .int ((u_16.1, u_16.2.1, 0, u_16.2.2.2).2.2.2)])), (ob, .inl (cZ, 5200, .inl bm.1)), (ok, .inl (cK, 600, .inl km.1))]) [0, 1, 2] (by decide) rfl) hS ls (lv_sub hl [3, 0] rfl)
              · refine lv_aload_n hx hb dX3_skip_160 rfl (lv_at hl 3 rfl) ?_
                refine va_get (D := (dC, dI)) (ci := 3) (v := .int u_16.1) (C := RX3) (T := TX3) (N := 19) hx hb hts inGX3 hown hK hP 0 rfl rfl 15 (by decide) (hts _ wd452) (fun _ h9 => h9) rfl dX3_skip_161 ?_
                refine lv_bipush (v := 8) hx hb dX3_skip_164 (by decide) ?_
                refine lv_irem hx hb dX3_skip_166 (by decide) ?_
                refine lv_if_eq (tgt := 189) hx hb dX3_skip_167 (by decide) (fun c_167 => ?_) (fun c_167 => ?_)
                · refine lv_goto (tgt := 20) hx hb dX3_skip_189 (by decide) ?_
                  exact ih th bm km qm bd (u_16.1, u_16.2.1, 0, u_16.2.2.2) i_17 (hf.2.2 _ _ (ssX3_skip_20_11 st lo th bm km qm bd ym nn c_27 c_50 c_57 _ hw_14 _ hw_15 _ ei_17 c_125 c_146 c_157 c_167)) ((plX3_skip_l20_10 st lo n th bm km qm bd ym nn c_27 c_50 c_57 _ hw_14 _ hw_15 _ ei_17 c_125 c_146 c_157 c_167).trans hz) _ _ (hP.sub (ws' := [(om, .inr (3, [.int th, .int st, .int lo, .ref ob, .int bm.2.1, .int bm.2.2.1, .int bm.2.2.2.1, .int bm.2.2.2.2, .ref ok, .int km.2, .int qm.1, .int qm.2.1, .int qm.2.2.1, .int qm.2.2.2, .int bd, .int ((u_16.1, u_16.2.1, 0, u_16.2.2.2).1), .int ((u_16.1, u_16.2.1, 0, u_16.2.2.2).2.1), .int ((u_16.1, u_16.2.1, 0, u_16.2.2.2).2.2.1), .int ((u_16.1, u_16.2.1, 0, u_16.2.2.2).2.2.2)])), (ob, .inl (cZ, 5200, .inl bm.1)), (ok, .inl (cK, 600, .inl km.1))]) [0, 1, 2] rfl) (hD.sub (ws' := [(om, .inr (3, [.int th, .int st, .int lo, .ref ob, .int bm.2.1, .int bm.2.2.1, .int bm.2.2.2.1, .int bm.2.2.2.2, .ref ok, .int km.2, .int qm.1, .int qm.2.1, .int qm.2.2.1, .int qm.2.2.2, .int bd, .int ((u_16.1, u_16.2.1, 0, u_16.2.2.2).1), .int ((u_16.1, u_16.2.1, 0, u_16.2.2.2).2.1), .int ((u_16.1, u_16.2.1, 0, u_16.2.2.2).2.2.1), .int ((u_16.1, u_16.2.1, 0, u_16.2.2.2).2.2.2)])), (ob, .inl (cZ, 5200, .inl bm.1)), (ok, .inl (cK, 600, .inl km.1))]) [0, 1, 2] (by decide) rfl) hS ls (lv_sub hl [3, 0] rfl)
                · refine lv_aload_n hx hb dX3_skip_170 rfl (lv_at hl 3 rfl) ?_
                  refine lv_dup hx hb dX3_skip_171 rfl ?_
                  refine va_get (D := (dC, dI)) (ci := 3) (v := .int u_16.2.1) (C := RX3) (T := TX3) (N := 19) hx hb hts inGX3 hown hK hP 0 rfl rfl 16 (by decide) (hts _ wd453) (fun _ h9 => h9) rfl dX3_skip_172 ?_
                  refine lv_iconst (v := 1) hx hb dX3_skip_175 (by decide) ?_
                  refine lv_iadd hx hb dX3_skip_176 ?_
                  refine lv_topi (fun f_18 ef_18 => ?_)
                  refine va_put (D := (dC, dI)) (ci := 3) (v := .int f_18) (ty := .int) (C := RX3) (T := TX3) (N := 19) hx hb hts inGX3 tyX3 tyX3_ok nmX3 hown hK hP hD hS 0 rfl rfl 16 (by decide) (hts _ wd453) (fun _ h9 => h9) rfl (by decide +kernel) rfl rfl (Nat.le_of_ble_eq_true rfl) dX3_skip_177 (fun H locs hP hD hS => ?_)
                  have hP : va_P (dC, dI) vwCl [(om, .inr (3, [.int th, .int st, .int lo, .ref ob, .int bm.2.1, .int bm.2.2.1, .int bm.2.2.2.1, .int bm.2.2.2.2, .ref ok, .int km.2, .int qm.1, .int qm.2.1, .int qm.2.2.1, .int qm.2.2.2, .int bd, .int u_16.1, .int f_18, .int 0, .int u_16.2.2.2])), (ob, .inl (cZ, 5200, .inl bm.1)), (ok, .inl (cK, 600, .inl km.1))] H := hP
                  have hD : va_D A [(om, .inr (3, [.int th, .int st, .int lo, .ref ob, .int bm.2.1, .int bm.2.2.1, .int bm.2.2.2.1, .int bm.2.2.2.2, .ref ok, .int km.2, .int qm.1, .int qm.2.1, .int qm.2.2.1, .int qm.2.2.2, .int bd, .int u_16.1, .int f_18, .int 0, .int u_16.2.2.2])), (ob, .inl (cZ, 5200, .inl bm.1)), (ok, .inl (cK, 600, .inl km.1))] := hD
                  refine lv_aload_n hx hb dX3_skip_180 rfl (lv_at hl 3 rfl) ?_
                  have hPc := hP.sub (ws' := [(om, .inr (3, [.int th, .int st, .int lo, .ref ob, .int bm.2.1, .int bm.2.2.1, .int bm.2.2.2.1, .int bm.2.2.2.2, .ref ok, .int km.2, .int qm.1, .int qm.2.1, .int qm.2.2.1, .int qm.2.2.2, .int bd, .int u_16.1, .int f_18, .int 0, .int u_16.2.2.2])), (ob, .inl (cZ, 5200, .inl bm.1)), (ok, .inl (cK, 600, .inl km.1))]) [0, 1, 2] rfl
                  have hKc := hK.sub (tys' := [(cZ, .boolean), (cK, .int)]) [0, 1] rfl
                  have hDc := hD.sub (ws' := [(om, .inr (3, [.int th, .int st, .int lo, .ref ob, .int bm.2.1, .int bm.2.2.1, .int bm.2.2.2.1, .int bm.2.2.2.2, .ref ok, .int km.2, .int qm.1, .int qm.2.1, .int qm.2.2.1, .int qm.2.2.2, .int bd, .int u_16.1, .int f_18, .int 0, .int u_16.2.2.2])), (ob, .inl (cZ, 5200, .inl bm.1)), (ok, .inl (cK, 600, .inl km.1))]) [0, 1, 2] (by decide) rfl
                  have hFc := va_free (wc := [(om, .inr (3, [.int th, .int st, .int lo, .ref ob, .int bm.2.1, .int bm.2.2.1, .int bm.2.2.2.1, .int bm.2.2.2.2, .ref ok, .int km.2, .int qm.1, .int qm.2.1, .int qm.2.2.1, .int qm.2.2.2, .int bd, .int u_16.1, .int f_18, .int 0, .int u_16.2.2.2])), (ob, .inl (cZ, 5200, .inl bm.1)), (ok, .inl (cK, 600, .inl km.1))]) hD hS hA [0, 1, 2] rfl
                  refine va_callv (va_runV (As := []) (rest := []) ⟨hx, hb, hml, hown, hts⟩ (mX3_goOn l dC dI cZ cK om ob ok H.size st lo th bm km qm bd (u_16.1, f_18, 0, u_16.2.2.2) (sk_tT hf.1 (by first | exact hf.2.1 (Or.inl c_27) | exact hf.2.1 (Or.inr ⟨c_35, c_42⟩)) (by assumption) c_167)) (cwV 0 hts (gV wd572 wd573 wd22 wd30 wd574) rfl rfl rfl (by decide +kernel) ⟨Nat.le_of_ble_eq_true rfl, Nat.le_of_ble_eq_true rfl⟩) ⟨fb_rw, va_recv hKc hPc (ci := 3) (q0 := 0) rfl rfl, pre_rw hPc hKc hDc hZ⟩ rfl rfl hl.1 rfl (lv_room (Nat.le_of_ble_eq_true rfl)) dX3_skip_181 ⟨Nat.le_of_ble_eq_true rfl, Nat.le_of_ble_eq_true rfl⟩) hS (fun q _ h => hFc q h) hFc (fun u_20 t H1 locs ht hvm hw_19 hB hz1 hk1 hS => ?_)
                  obtain ⟨hP1, hD1⟩ := hB
                  rw [ht] at hP1
                  obtain ⟨hP, hD⟩ := va_join (wr := []) (w1 := [(om, .inr (3, [.int th, .int st, .int lo, .ref ob, .int bm.2.1, .int bm.2.2.1, .int bm.2.2.2.1, .int bm.2.2.2.2, .ref ok, .int km.2, .int qm.1, .int qm.2.1, .int qm.2.2.1, .int qm.2.2.2, .int bd, .int u_20.1, .int u_20.2.1, .int u_20.2.2.1, .int u_20.2.2.2])), (ob, .inl (cZ, 5200, .inl bm.1)), (ok, .inl (cK, 600, .inl km.1))]) hP hD [0, 1, 2] [] rfl rfl (by decide) (by decide) hk1 hFc hP1 hD1
                  generalize H1 = H at hP hS ⊢
                  have hP : va_P (dC, dI) vwCl [(om, .inr (3, [.int th, .int st, .int lo, .ref ob, .int bm.2.1, .int bm.2.2.1, .int bm.2.2.2.1, .int bm.2.2.2.2, .ref ok, .int km.2, .int qm.1, .int qm.2.1, .int qm.2.2.1, .int qm.2.2.2, .int bd, .int u_20.1, .int u_20.2.1, .int u_20.2.2.1, .int u_20.2.2.2])), (ob, .inl (cZ, 5200, .inl bm.1)), (ok, .inl (cK, 600, .inl km.1))] H := hP
                  have hD : va_D A [(om, .inr (3, [.int th, .int st, .int lo, .ref ob, .int bm.2.1, .int bm.2.2.1, .int bm.2.2.2.1, .int bm.2.2.2.2, .ref ok, .int km.2, .int qm.1, .int qm.2.1, .int qm.2.2.1, .int qm.2.2.2, .int bd, .int u_20.1, .int u_20.2.1, .int u_20.2.2.1, .int u_20.2.2.2])), (ob, .inl (cZ, 5200, .inl bm.1)), (ok, .inl (cK, 600, .inl km.1))] := hD
                  refine lv_aload_n hx hb dX3_skip_184 rfl (lv_at hl 3 rfl) ?_
                  refine lv_iconst (v := 0) hx hb dX3_skip_185 (by decide) ?_
                  refine va_put (D := (dC, dI)) (ci := 3) (v := .int 0) (ty := .int) (C := RX3) (T := TX3) (N := 19) hx hb hts inGX3 tyX3 tyX3_ok nmX3 hown hK hP hD hS 0 rfl rfl 17 (by decide) (hts _ wd454) (fun _ h9 => h9) rfl (by decide +kernel) rfl rfl (Nat.le_of_ble_eq_true rfl) dX3_skip_186 (fun H locs hP hD hS => ?_)
                  have hP : va_P (dC, dI) vwCl [(om, .inr (3, [.int th, .int st, .int lo, .ref ob, .int bm.2.1, .int bm.2.2.1, .int bm.2.2.2.1, .int bm.2.2.2.2, .ref ok, .int km.2, .int qm.1, .int qm.2.1, .int qm.2.2.1, .int qm.2.2.2, .int bd, .int u_20.1, .int u_20.2.1, .int 0, .int u_20.2.2.2])), (ob, .inl (cZ, 5200, .inl bm.1)), (ok, .inl (cK, 600, .inl km.1))] H := hP
                  have hD : va_D A [(om, .inr (3, [.int th, .int st, .int lo, .ref ob, .int bm.2.1, .int bm.2.2.1, .int bm.2.2.2.1, .int bm.2.2.2.2, .ref ok, .int km.2, .int qm.1, .int qm.2.1, .int qm.2.2.1, .int qm.2.2.2, .int bd, .int u_20.1, .int u_20.2.1, .int 0, .int u_20.2.2.2])), (ob, .inl (cZ, 5200, .inl bm.1)), (ok, .inl (cK, 600, .inl km.1))] := hD
                  refine lv_goto (tgt := 20) hx hb dX3_skip_189 (by decide) ?_
                  exact ih th bm km qm bd (u_20.1, u_20.2.1, 0, u_20.2.2.2) i_17 (hf.2.2 _ _ (ssX3_skip_20_12 st lo th bm km qm bd ym nn c_27 c_50 c_57 _ hw_14 _ hw_15 _ ei_17 c_125 c_146 c_157 c_167 _ ef_18 _ hw_19)) ((plX3_skip_l20_11 st lo n th bm km qm bd ym nn c_27 c_50 c_57 _ hw_14 _ hw_15 _ ei_17 c_125 c_146 c_157 c_167 _ ef_18 _ hw_19).trans hz) _ _ (hP.sub (ws' := [(om, .inr (3, [.int th, .int st, .int lo, .ref ob, .int bm.2.1, .int bm.2.2.1, .int bm.2.2.2.1, .int bm.2.2.2.2, .ref ok, .int km.2, .int qm.1, .int qm.2.1, .int qm.2.2.1, .int qm.2.2.2, .int bd, .int ((u_20.1, u_20.2.1, 0, u_20.2.2.2).1), .int ((u_20.1, u_20.2.1, 0, u_20.2.2.2).2.1), .int ((u_20.1, u_20.2.1, 0, u_20.2.2.2).2.2.1), .int ((u_20.1, u_20.2.1, 0, u_20.2.2.2).2.2.2)])), (ob, .inl (cZ, 5200, .inl bm.1)), (ok, .inl (cK, 600, .inl km.1))]) [0, 1, 2] rfl) (hD.sub (ws' := [(om, .inr (3, [.int th, .int st, .int lo, .ref ob, .int bm.2.1, .int bm.2.2.1, .int bm.2.2.2.1, .int bm.2.2.2.2, .ref ok, .int km.2, .int qm.1, .int qm.2.1, .int qm.2.2.1, .int qm.2.2.2, .int bd, .int ((u_20.1, u_20.2.1, 0, u_20.2.2.2).1), .int ((u_20.1, u_20.2.1, 0, u_20.2.2.2).2.1), .int ((u_20.1, u_20.2.1, 0, u_20.2.2.2).2.2.1), .int ((u_20.1, u_20.2.1, 0, u_20.2.2.2).2.2.2)])), (ob, .inl (cZ, 5200, .inl bm.1)), (ok, .inl (cK, 600, .inl km.1))]) [0, 1, 2] (by decide) rfl) hS ls (lv_sub hl [3, 0] rfl)
          · refine lv_aload_n hx hb dX3_skip_128 rfl (lv_at hl 3 rfl) ?_
            refine va_get (D := (dC, dI)) (ci := 3) (v := .int u_16.2.2.1) (C := RX3) (T := TX3) (N := 19) hx hb hts inGX3 hown hK hP 0 rfl rfl 17 (by decide) (hts _ wd454) (fun _ h9 => h9) rfl dX3_skip_129 ?_
            refine lv_iconst (v := 1) hx hb dX3_skip_132 (by decide) ?_
            refine lv_iadd hx hb dX3_skip_133 ?_
            refine lv_goto (tgt := 138) hx hb dX3_skip_134 (by decide) ?_
            refine lv_topi (fun f_21 ef_21 => ?_)
            refine va_put (D := (dC, dI)) (ci := 3) (v := .int f_21) (ty := .int) (C := RX3) (T := TX3) (N := 19) hx hb hts inGX3 tyX3 tyX3_ok nmX3 hown hK hP hD hS 0 rfl rfl 17 (by decide) (hts _ wd454) (fun _ h9 => h9) rfl (by decide +kernel) rfl rfl (Nat.le_of_ble_eq_true rfl) dX3_skip_138 (fun H locs hP hD hS => ?_)
            have hP : va_P (dC, dI) vwCl [(om, .inr (3, [.int th, .int st, .int lo, .ref ob, .int bm.2.1, .int bm.2.2.1, .int bm.2.2.2.1, .int bm.2.2.2.2, .ref ok, .int km.2, .int qm.1, .int qm.2.1, .int qm.2.2.1, .int qm.2.2.2, .int bd, .int u_16.1, .int u_16.2.1, .int f_21, .int u_16.2.2.2])), (ob, .inl (cZ, 5200, .inl bm.1)), (ok, .inl (cK, 600, .inl km.1))] H := hP
            have hD : va_D A [(om, .inr (3, [.int th, .int st, .int lo, .ref ob, .int bm.2.1, .int bm.2.2.1, .int bm.2.2.2.1, .int bm.2.2.2.2, .ref ok, .int km.2, .int qm.1, .int qm.2.1, .int qm.2.2.1, .int qm.2.2.2, .int bd, .int u_16.1, .int u_16.2.1, .int f_21, .int u_16.2.2.2])), (ob, .inl (cZ, 5200, .inl bm.1)), (ok, .inl (cK, 600, .inl km.1))] := hD
            refine lv_aload_n hx hb dX3_skip_141 rfl (lv_at hl 3 rfl) ?_
            refine va_get (D := (dC, dI)) (ci := 3) (v := .int st) (C := RX3) (T := TX3) (N := 19) hx hb hts inGX3 hown hK hP 0 rfl rfl 1 (by decide) (hts _ wd438) (fun _ h9 => h9) rfl dX3_skip_142 ?_
            refine lv_iconst (v := 1) hx hb dX3_skip_145 (by decide) ?_
            refine lv_icmp_le (tgt := 189) hx hb dX3_skip_146 (by decide) (fun c_146 => ?_) (fun c_146 => ?_)
            · refine lv_goto (tgt := 20) hx hb dX3_skip_189 (by decide) ?_
              exact ih th bm km qm bd (u_16.1, u_16.2.1, f_21, u_16.2.2.2) i_17 (hf.2.2 _ _ (ssX3_skip_20_13 st lo th bm km qm bd ym nn c_27 c_50 c_57 _ hw_14 _ hw_15 _ ei_17 c_125 _ ef_21 c_146)) ((plX3_skip_l20_12 st lo n th bm km qm bd ym nn c_27 c_50 c_57 _ hw_14 _ hw_15 _ ei_17 c_125 _ ef_21 c_146).trans hz) _ _ (hP.sub (ws' := [(om, .inr (3, [.int th, .int st, .int lo, .ref ob, .int bm.2.1, .int bm.2.2.1, .int bm.2.2.2.1, .int bm.2.2.2.2, .ref ok, .int km.2, .int qm.1, .int qm.2.1, .int qm.2.2.1, .int qm.2.2.2, .int bd, .int ((u_16.1, u_16.2.1, f_21, u_16.2.2.2).1), .int ((u_16.1, u_16.2.1, f_21, u_16.2.2.2).2.1), .int ((u_16.1, u_16.2.1, f_21, u_16.2.2.2).2.2.1), .int ((u_16.1, u_16.2.1, f_21, u_16.2.2.2).2.2.2)])), (ob, .inl (cZ, 5200, .inl bm.1)), (ok, .inl (cK, 600, .inl km.1))]) [0, 1, 2] rfl) (hD.sub (ws' := [(om, .inr (3, [.int th, .int st, .int lo, .ref ob, .int bm.2.1, .int bm.2.2.1, .int bm.2.2.2.1, .int bm.2.2.2.2, .ref ok, .int km.2, .int qm.1, .int qm.2.1, .int qm.2.2.1, .int qm.2.2.2, .int bd, .int ((u_16.1, u_16.2.1, f_21, u_16.2.2.2).1), .int ((u_16.1, u_16.2.1, f_21, u_16.2.2.2).2.1), .int ((u_16.1, u_16.2.1, f_21, u_16.2.2.2).2.2.1), .int ((u_16.1, u_16.2.1, f_21, u_16.2.2.2).2.2.2)])), (ob, .inl (cZ, 5200, .inl bm.1)), (ok, .inl (cK, 600, .inl km.1))]) [0, 1, 2] (by decide) rfl) hS ls (lv_sub hl [3, 0] rfl)
            · refine lv_aload_n hx hb dX3_skip_149 rfl (lv_at hl 3 rfl) ?_
              refine va_get (D := (dC, dI)) (ci := 3) (v := .int f_21) (C := RX3) (T := TX3) (N := 19) hx hb hts inGX3 hown hK hP 0 rfl rfl 17 (by decide) (hts _ wd454) (fun _ h9 => h9) rfl dX3_skip_150 ?_
              refine lv_aload_n hx hb dX3_skip_153 rfl (lv_at hl 3 rfl) ?_
              refine va_get (D := (dC, dI)) (ci := 3) (v := .int st) (C := RX3) (T := TX3) (N := 19) hx hb hts inGX3 hown hK hP 0 rfl rfl 1 (by decide) (hts _ wd438) (fun _ h9 => h9) rfl dX3_skip_154 ?_
              refine lv_icmp_ne (tgt := 189) hx hb dX3_skip_157 (by decide) (fun c_157 => ?_) (fun c_157 => ?_)
              · refine lv_goto (tgt := 20) hx hb dX3_skip_189 (by decide) ?_
                exact ih th bm km qm bd (u_16.1, u_16.2.1, f_21, u_16.2.2.2) i_17 (hf.2.2 _ _ (ssX3_skip_20_14 st lo th bm km qm bd ym nn c_27 c_50 c_57 _ hw_14 _ hw_15 _ ei_17 c_125 _ ef_21 c_146 c_157)) ((plX3_skip_l20_13 st lo n th bm km qm bd ym nn c_27 c_50 c_57 _ hw_14 _ hw_15 _ ei_17 c_125 _ ef_21 c_146 c_157).trans hz) _ _ (hP.sub (ws' := [(om, .inr (3, [.int th, .int st, .int lo, .ref ob, .int bm.2.1, .int bm.2.2.1, .int bm.2.2.2.1, .int bm.2.2.2.2, .ref ok, .int km.2, .int qm.1, .int qm.2.1, .int qm.2.2.1, .int qm.2.2.2, .int bd, .int ((u_16.1, u_16.2.1, f_21, u_16.2.2.2).1), .int ((u_16.1, u_16.2.1, f_21, u_16.2.2.2).2.1), .int ((u_16.1, u_16.2.1, f_21, u_16.2.2.2).2.2.1), .int ((u_16.1, u_16.2.1, f_21, u_16.2.2.2).2.2.2)])), (ob, .inl (cZ, 5200, .inl bm.1)), (ok, .inl (cK, 600, .inl km.1))]) [0, 1, 2] rfl) (hD.sub (ws' := [(om, .inr (3, [.int th, .int st, .int lo, .ref ob, .int bm.2.1, .int bm.2.2.1, .int bm.2.2.2.1, .int bm.2.2.2.2, .ref ok, .int km.2, .int qm.1, .int qm.2.1, .int qm.2.2.1, .int qm.2.2.2, .int bd, .int ((u_16.1, u_16.2.1, f_21, u_16.2.2.2).1), .int ((u_16.1, u_16.2.1, f_21, u_16.2.2.2).2.1), .int ((u_16.1, u_16.2.1, f_21, u_16.2.2.2).2.2.1), .int ((u_16.1, u_16.2.1, f_21, u_16.2.2.2).2.2.2)])), (ob, .inl (cZ, 5200, .inl bm.1)), (ok, .inl (cK, 600, .inl km.1))]) [0, 1, 2] (by decide) rfl) hS ls (lv_sub hl [3, 0] rfl)
              · refine lv_aload_n hx hb dX3_skip_160 rfl (lv_at hl 3 rfl) ?_
                refine va_get (D := (dC, dI)) (ci := 3) (v := .int u_16.1) (C := RX3) (T := TX3) (N := 19) hx hb hts inGX3 hown hK hP 0 rfl rfl 15 (by decide) (hts _ wd452) (fun _ h9 => h9) rfl dX3_skip_161 ?_
                refine lv_bipush (v := 8) hx hb dX3_skip_164 (by decide) ?_
                refine lv_irem hx hb dX3_skip_166 (by decide) ?_
                refine lv_if_eq (tgt := 189) hx hb dX3_skip_167 (by decide) (fun c_167 => ?_) (fun c_167 => ?_)
                · refine lv_goto (tgt := 20) hx hb dX3_skip_189 (by decide) ?_
                  exact ih th bm km qm bd (u_16.1, u_16.2.1, f_21, u_16.2.2.2) i_17 (hf.2.2 _ _ (ssX3_skip_20_15 st lo th bm km qm bd ym nn c_27 c_50 c_57 _ hw_14 _ hw_15 _ ei_17 c_125 _ ef_21 c_146 c_157 c_167)) ((plX3_skip_l20_14 st lo n th bm km qm bd ym nn c_27 c_50 c_57 _ hw_14 _ hw_15 _ ei_17 c_125 _ ef_21 c_146 c_157 c_167).trans hz) _ _ (hP.sub (ws' := [(om, .inr (3, [.int th, .int st, .int lo, .ref ob, .int bm.2.1, .int bm.2.2.1, .int bm.2.2.2.1, .int bm.2.2.2.2, .ref ok, .int km.2, .int qm.1, .int qm.2.1, .int qm.2.2.1, .int qm.2.2.2, .int bd, .int ((u_16.1, u_16.2.1, f_21, u_16.2.2.2).1), .int ((u_16.1, u_16.2.1, f_21, u_16.2.2.2).2.1), .int ((u_16.1, u_16.2.1, f_21, u_16.2.2.2).2.2.1), .int ((u_16.1, u_16.2.1, f_21, u_16.2.2.2).2.2.2)])), (ob, .inl (cZ, 5200, .inl bm.1)), (ok, .inl (cK, 600, .inl km.1))]) [0, 1, 2] rfl) (hD.sub (ws' := [(om, .inr (3, [.int th, .int st, .int lo, .ref ob, .int bm.2.1, .int bm.2.2.1, .int bm.2.2.2.1, .int bm.2.2.2.2, .ref ok, .int km.2, .int qm.1, .int qm.2.1, .int qm.2.2.1, .int qm.2.2.2, .int bd, .int ((u_16.1, u_16.2.1, f_21, u_16.2.2.2).1), .int ((u_16.1, u_16.2.1, f_21, u_16.2.2.2).2.1), .int ((u_16.1, u_16.2.1, f_21, u_16.2.2.2).2.2.1), .int ((u_16.1, u_16.2.1, f_21, u_16.2.2.2).2.2.2)])), (ob, .inl (cZ, 5200, .inl bm.1)), (ok, .inl (cK, 600, .inl km.1))]) [0, 1, 2] (by decide) rfl) hS ls (lv_sub hl [3, 0] rfl)
                · refine lv_aload_n hx hb dX3_skip_170 rfl (lv_at hl 3 rfl) ?_
                  refine lv_dup hx hb dX3_skip_171 rfl ?_
                  refine va_get (D := (dC, dI)) (ci := 3) (v := .int u_16.2.1) (C := RX3) (T := TX3) (N := 19) hx hb hts inGX3 hown hK hP 0 rfl rfl 16 (by decide) (hts _ wd453) (fun _ h9 => h9) rfl dX3_skip_172 ?_
                  refine lv_iconst (v := 1) hx hb dX3_skip_175 (by decide) ?_
                  refine lv_iadd hx hb dX3_skip_176 ?_
                  refine lv_topi (fun f_22 ef_22 => ?_)
                  refine va_put (D := (dC, dI)) (ci := 3) (v := .int f_22) (ty := .int) (C := RX3) (T := TX3) (N := 19) hx hb hts inGX3 tyX3 tyX3_ok nmX3 hown hK hP hD hS 0 rfl rfl 16 (by decide) (hts _ wd453) (fun _ h9 => h9) rfl (by decide +kernel) rfl rfl (Nat.le_of_ble_eq_true rfl) dX3_skip_177 (fun H locs hP hD hS => ?_)
                  have hP : va_P (dC, dI) vwCl [(om, .inr (3, [.int th, .int st, .int lo, .ref ob, .int bm.2.1, .int bm.2.2.1, .int bm.2.2.2.1, .int bm.2.2.2.2, .ref ok, .int km.2, .int qm.1, .int qm.2.1, .int qm.2.2.1, .int qm.2.2.2, .int bd, .int u_16.1, .int f_22, .int f_21, .int u_16.2.2.2])), (ob, .inl (cZ, 5200, .inl bm.1)), (ok, .inl (cK, 600, .inl km.1))] H := hP
                  have hD : va_D A [(om, .inr (3, [.int th, .int st, .int lo, .ref ob, .int bm.2.1, .int bm.2.2.1, .int bm.2.2.2.1, .int bm.2.2.2.2, .ref ok, .int km.2, .int qm.1, .int qm.2.1, .int qm.2.2.1, .int qm.2.2.2, .int bd, .int u_16.1, .int f_22, .int f_21, .int u_16.2.2.2])), (ob, .inl (cZ, 5200, .inl bm.1)), (ok, .inl (cK, 600, .inl km.1))] := hD
                  refine lv_aload_n hx hb dX3_skip_180 rfl (lv_at hl 3 rfl) ?_
                  have hPc := hP.sub (ws' := [(om, .inr (3, [.int th, .int st, .int lo, .ref ob, .int bm.2.1, .int bm.2.2.1, .int bm.2.2.2.1, .int bm.2.2.2.2, .ref ok, .int km.2, .int qm.1, .int qm.2.1, .int qm.2.2.1, .int qm.2.2.2, .int bd, .int u_16.1, .int f_22, .int f_21, .int u_16.2.2.2])), (ob, .inl (cZ, 5200, .inl bm.1)), (ok, .inl (cK, 600, .inl km.1))]) [0, 1, 2] rfl
                  have hKc := hK.sub (tys' := [(cZ, .boolean), (cK, .int)]) [0, 1] rfl
                  have hDc := hD.sub (ws' := [(om, .inr (3, [.int th, .int st, .int lo, .ref ob, .int bm.2.1, .int bm.2.2.1, .int bm.2.2.2.1, .int bm.2.2.2.2, .ref ok, .int km.2, .int qm.1, .int qm.2.1, .int qm.2.2.1, .int qm.2.2.2, .int bd, .int u_16.1, .int f_22, .int f_21, .int u_16.2.2.2])), (ob, .inl (cZ, 5200, .inl bm.1)), (ok, .inl (cK, 600, .inl km.1))]) [0, 1, 2] (by decide) rfl
                  have hFc := va_free (wc := [(om, .inr (3, [.int th, .int st, .int lo, .ref ob, .int bm.2.1, .int bm.2.2.1, .int bm.2.2.2.1, .int bm.2.2.2.2, .ref ok, .int km.2, .int qm.1, .int qm.2.1, .int qm.2.2.1, .int qm.2.2.2, .int bd, .int u_16.1, .int f_22, .int f_21, .int u_16.2.2.2])), (ob, .inl (cZ, 5200, .inl bm.1)), (ok, .inl (cK, 600, .inl km.1))]) hD hS hA [0, 1, 2] rfl
                  refine va_callv (va_runV (As := []) (rest := []) ⟨hx, hb, hml, hown, hts⟩ (mX3_goOn l dC dI cZ cK om ob ok H.size st lo th bm km qm bd (u_16.1, f_22, f_21, u_16.2.2.2) (sk_tT hf.1 (by first | exact hf.2.1 (Or.inl c_27) | exact hf.2.1 (Or.inr ⟨c_35, c_42⟩)) (by assumption) c_167)) (cwV 0 hts (gV wd572 wd573 wd22 wd30 wd574) rfl rfl rfl (by decide +kernel) ⟨Nat.le_of_ble_eq_true rfl, Nat.le_of_ble_eq_true rfl⟩) ⟨fb_rw, va_recv hKc hPc (ci := 3) (q0 := 0) rfl rfl, pre_rw hPc hKc hDc hZ⟩ rfl rfl hl.1 rfl (lv_room (Nat.le_of_ble_eq_true rfl)) dX3_skip_181 ⟨Nat.le_of_ble_eq_true rfl, Nat.le_of_ble_eq_true rfl⟩) hS (fun q _ h => hFc q h) hFc (fun u_24 t H1 locs ht hvm hw_23 hB hz1 hk1 hS => ?_)
                  obtain ⟨hP1, hD1⟩ := hB
                  rw [ht] at hP1
                  obtain ⟨hP, hD⟩ := va_join (wr := []) (w1 := [(om, .inr (3, [.int th, .int st, .int lo, .ref ob, .int bm.2.1, .int bm.2.2.1, .int bm.2.2.2.1, .int bm.2.2.2.2, .ref ok, .int km.2, .int qm.1, .int qm.2.1, .int qm.2.2.1, .int qm.2.2.2, .int bd, .int u_24.1, .int u_24.2.1, .int u_24.2.2.1, .int u_24.2.2.2])), (ob, .inl (cZ, 5200, .inl bm.1)), (ok, .inl (cK, 600, .inl km.1))]) hP hD [0, 1, 2] [] rfl rfl (by decide) (by decide) hk1 hFc hP1 hD1
                  generalize H1 = H at hP hS ⊢
                  have hP : va_P (dC, dI) vwCl [(om, .inr (3, [.int th, .int st, .int lo, .ref ob, .int bm.2.1, .int bm.2.2.1, .int bm.2.2.2.1, .int bm.2.2.2.2, .ref ok, .int km.2, .int qm.1, .int qm.2.1, .int qm.2.2.1, .int qm.2.2.2, .int bd, .int u_24.1, .int u_24.2.1, .int u_24.2.2.1, .int u_24.2.2.2])), (ob, .inl (cZ, 5200, .inl bm.1)), (ok, .inl (cK, 600, .inl km.1))] H := hP
                  have hD : va_D A [(om, .inr (3, [.int th, .int st, .int lo, .ref ob, .int bm.2.1, .int bm.2.2.1, .int bm.2.2.2.1, .int bm.2.2.2.2, .ref ok, .int km.2, .int qm.1, .int qm.2.1, .int qm.2.2.1, .int qm.2.2.2, .int bd, .int u_24.1, .int u_24.2.1, .int u_24.2.2.1, .int u_24.2.2.2])), (ob, .inl (cZ, 5200, .inl bm.1)), (ok, .inl (cK, 600, .inl km.1))] := hD
                  refine lv_aload_n hx hb dX3_skip_184 rfl (lv_at hl 3 rfl) ?_
                  refine lv_iconst (v := 0) hx hb dX3_skip_185 (by decide) ?_
                  refine va_put (D := (dC, dI)) (ci := 3) (v := .int 0) (ty := .int) (C := RX3) (T := TX3) (N := 19) hx hb hts inGX3 tyX3 tyX3_ok nmX3 hown hK hP hD hS 0 rfl rfl 17 (by decide) (hts _ wd454) (fun _ h9 => h9) rfl (by decide +kernel) rfl rfl (Nat.le_of_ble_eq_true rfl) dX3_skip_186 (fun H locs hP hD hS => ?_)
                  have hP : va_P (dC, dI) vwCl [(om, .inr (3, [.int th, .int st, .int lo, .ref ob, .int bm.2.1, .int bm.2.2.1, .int bm.2.2.2.1, .int bm.2.2.2.2, .ref ok, .int km.2, .int qm.1, .int qm.2.1, .int qm.2.2.1, .int qm.2.2.2, .int bd, .int u_24.1, .int u_24.2.1, .int 0, .int u_24.2.2.2])), (ob, .inl (cZ, 5200, .inl bm.1)), (ok, .inl (cK, 600, .inl km.1))] H := hP
                  have hD : va_D A [(om, .inr (3, [.int th, .int st, .int lo, .ref ob, .int bm.2.1, .int bm.2.2.1, .int bm.2.2.2.1, .int bm.2.2.2.2, .ref ok, .int km.2, .int qm.1, .int qm.2.1, .int qm.2.2.1, .int qm.2.2.2, .int bd, .int u_24.1, .int u_24.2.1, .int 0, .int u_24.2.2.2])), (ob, .inl (cZ, 5200, .inl bm.1)), (ok, .inl (cK, 600, .inl km.1))] := hD
                  refine lv_goto (tgt := 20) hx hb dX3_skip_189 (by decide) ?_
                  exact ih th bm km qm bd (u_24.1, u_24.2.1, 0, u_24.2.2.2) i_17 (hf.2.2 _ _ (ssX3_skip_20_16 st lo th bm km qm bd ym nn c_27 c_50 c_57 _ hw_14 _ hw_15 _ ei_17 c_125 _ ef_21 c_146 c_157 c_167 _ ef_22 _ hw_23)) ((plX3_skip_l20_15 st lo n th bm km qm bd ym nn c_27 c_50 c_57 _ hw_14 _ hw_15 _ ei_17 c_125 _ ef_21 c_146 c_157 c_167 _ ef_22 _ hw_23).trans hz) _ _ (hP.sub (ws' := [(om, .inr (3, [.int th, .int st, .int lo, .ref ob, .int bm.2.1, .int bm.2.2.1, .int bm.2.2.2.1, .int bm.2.2.2.2, .ref ok, .int km.2, .int qm.1, .int qm.2.1, .int qm.2.2.1, .int qm.2.2.2, .int bd, .int ((u_24.1, u_24.2.1, 0, u_24.2.2.2).1), .int ((u_24.1, u_24.2.1, 0, u_24.2.2.2).2.1), .int ((u_24.1, u_24.2.1, 0, u_24.2.2.2).2.2.1), .int ((u_24.1, u_24.2.1, 0, u_24.2.2.2).2.2.2)])), (ob, .inl (cZ, 5200, .inl bm.1)), (ok, .inl (cK, 600, .inl km.1))]) [0, 1, 2] rfl) (hD.sub (ws' := [(om, .inr (3, [.int th, .int st, .int lo, .ref ob, .int bm.2.1, .int bm.2.2.1, .int bm.2.2.2.1, .int bm.2.2.2.2, .ref ok, .int km.2, .int qm.1, .int qm.2.1, .int qm.2.2.1, .int qm.2.2.2, .int bd, .int ((u_24.1, u_24.2.1, 0, u_24.2.2.2).1), .int ((u_24.1, u_24.2.1, 0, u_24.2.2.2).2.1), .int ((u_24.1, u_24.2.1, 0, u_24.2.2.2).2.2.1), .int ((u_24.1, u_24.2.1, 0, u_24.2.2.2).2.2.2)])), (ob, .inl (cZ, 5200, .inl bm.1)), (ok, .inl (cK, 600, .inl km.1))]) [0, 1, 2] (by decide) rfl) hS ls (lv_sub hl [3, 0] rfl)
        · refine lv_aload_n hx hb dX3_skip_60 rfl (lv_at hl 0 rfl) ?_
          refine va_get (D := (dC, dI)) (ci := 3) (v := .int ym.1) (C := RX3) (T := TX3) (N := 19) hx hb hts inGX3 hown hK hP 0 rfl rfl 15 (by decide) (hts _ wd452) (fun _ h9 => h9) rfl dX3_skip_61 ?_
          refine lv_bipush (v := 8) hx hb dX3_skip_64 (by decide) ?_
          refine lv_irem hx hb dX3_skip_66 (by decide) ?_
          refine lv_aload_n hx hb dX3_skip_67 rfl (lv_at hl 0 rfl) ?_
          refine va_get (D := (dC, dI)) (ci := 3) (v := .int lo) (C := RX3) (T := TX3) (N := 19) hx hb hts inGX3 hown hK hP 0 rfl rfl 2 (by decide) (hts _ wd439) (fun _ h9 => h9) rfl dX3_skip_68 ?_
          refine lv_if_eq (tgt := 79) hx hb dX3_skip_71 (by decide) (fun c_71 => ?_) (fun c_71 => ?_)
          · refine lv_iconst (v := 0) hx hb dX3_skip_79 (by decide) ?_
            refine lv_icmp_ne (tgt := 87) hx hb dX3_skip_80 (by decide) (fun c_80 => ?_) (fun c_80 => ?_)
            · refine lv_iconst (v := 0) hx hb dX3_skip_87 (by decide) ?_
              refine lv_istore_n (lv' := [(2, .int 0), (0, .ref om), (1, .int nn)]) hx hb dX3_skip_88 rfl hl (by decide) rfl (fun ls hl => ?_)
              refine lv_aload_n hx hb dX3_skip_89 rfl (lv_at hl 1 rfl) ?_
              refine lv_aload_n hx hb dX3_skip_90 rfl (lv_at hl 1 rfl) ?_
              refine va_get (D := (dC, dI)) (ci := 3) (v := .int ym.1) (C := RX3) (T := TX3) (N := 19) hx hb hts inGX3 hown hK hP 0 rfl rfl 15 (by decide) (hts _ wd452) (fun _ h9 => h9) rfl dX3_skip_91 ?_
              have hPc := hP.sub (ws' := [(om, .inr (3, [.int th, .int st, .int lo, .ref ob, .int bm.2.1, .int bm.2.2.1, .int bm.2.2.2.1, .int bm.2.2.2.2, .ref ok, .int km.2, .int qm.1, .int qm.2.1, .int qm.2.2.1, .int qm.2.2.2, .int bd, .int ym.1, .int ym.2.1, .int ym.2.2.1, .int ym.2.2.2])), (ob, .inl (cZ, 5200, .inl bm.1)), (ok, .inl (cK, 600, .inl km.1))]) [0, 1, 2] rfl
              have hKc := hK.sub (tys' := [(cZ, .boolean), (cK, .int)]) [0, 1] rfl
              refine vp_callSi (va_Run.run (va_runV (As := [.int ym.1]) (rest := []) ⟨hx, hb, hml, hown, hts⟩ (mX3_bitAt l dC dI cZ cK om ob ok st lo th bm km qm bd ym ym.1 (t_in (by first | exact hf.2.1 (Or.inl c_27) | exact hf.2.1 (Or.inr ⟨c_35, c_42⟩)))) (cwV 1 hts (gV wd569 wd570 wd21 wd30 wd571) rfl rfl rfl (by decide +kernel) ⟨Nat.le_of_ble_eq_true rfl, Nat.le_of_ble_eq_true rfl⟩) ⟨fb_ro, va_recv hKc hPc (ci := 3) (q0 := 0) rfl rfl, pre_ro hPc hKc hZ⟩ rfl rfl hl.1 rfl (lv_room (Nat.le_of_ble_eq_true rfl)) dX3_skip_94 ⟨Nat.le_of_ble_eq_true rfl, Nat.le_of_ble_eq_true rfl⟩)) (fun r_25 hw_26 => ?_)
              refine lv_istore_n (lv' := [(3, .int r_25), (2, .int 0), (0, .ref om), (1, .int nn)]) hx hb dX3_skip_97 rfl hl (by decide) rfl (fun ls hl => ?_)
              refine lv_aload_n hx hb dX3_skip_98 rfl (lv_at hl 2 rfl) ?_
              have hPc := hP.sub (ws' := [(om, .inr (3, [.int th, .int st, .int lo, .ref ob, .int bm.2.1, .int bm.2.2.1, .int bm.2.2.2.1, .int bm.2.2.2.2, .ref ok, .int km.2, .int qm.1, .int qm.2.1, .int qm.2.2.1, .int qm.2.2.2, .int bd, .int ym.1, .int ym.2.1, .int ym.2.2.1, .int ym.2.2.2])), (ob, .inl (cZ, 5200, .inl bm.1)), (ok, .inl (cK, 600, .inl km.1))]) [0, 1, 2] rfl
              have hKc := hK.sub (tys' := [(cZ, .boolean), (cK, .int)]) [0, 1] rfl
              have hDc := hD.sub (ws' := [(om, .inr (3, [.int th, .int st, .int lo, .ref ob, .int bm.2.1, .int bm.2.2.1, .int bm.2.2.2.1, .int bm.2.2.2.2, .ref ok, .int km.2, .int qm.1, .int qm.2.1, .int qm.2.2.1, .int qm.2.2.2, .int bd, .int ym.1, .int ym.2.1, .int ym.2.2.1, .int ym.2.2.2])), (ob, .inl (cZ, 5200, .inl bm.1)), (ok, .inl (cK, 600, .inl km.1))]) [0, 1, 2] (by decide) rfl
              have hFc := va_free (wc := [(om, .inr (3, [.int th, .int st, .int lo, .ref ob, .int bm.2.1, .int bm.2.2.1, .int bm.2.2.2.1, .int bm.2.2.2.2, .ref ok, .int km.2, .int qm.1, .int qm.2.1, .int qm.2.2.1, .int qm.2.2.2, .int bd, .int ym.1, .int ym.2.1, .int ym.2.2.1, .int ym.2.2.2])), (ob, .inl (cZ, 5200, .inl bm.1)), (ok, .inl (cK, 600, .inl km.1))]) hD hS hA [0, 1, 2] rfl
              refine va_callv (va_runV (As := []) (rest := []) ⟨hx, hb, hml, hown, hts⟩ (mX3_goOn l dC dI cZ cK om ob ok H.size st lo th bm km qm bd ym (by first | exact hf.2.1 (Or.inl c_27) | exact hf.2.1 (Or.inr ⟨c_35, c_42⟩))) (cwV 0 hts (gV wd572 wd573 wd22 wd30 wd574) rfl rfl rfl (by decide +kernel) ⟨Nat.le_of_ble_eq_true rfl, Nat.le_of_ble_eq_true rfl⟩) ⟨fb_rw, va_recv hKc hPc (ci := 3) (q0 := 0) rfl rfl, pre_rw hPc hKc hDc hZ⟩ rfl rfl hl.1 rfl (lv_room (Nat.le_of_ble_eq_true rfl)) dX3_skip_99 ⟨Nat.le_of_ble_eq_true rfl, Nat.le_of_ble_eq_true rfl⟩) hS (fun q _ h => hFc q h) hFc (fun u_28 t H1 locs ht hvm hw_27 hB hz1 hk1 hS => ?_)
              obtain ⟨hP1, hD1⟩ := hB
              rw [ht] at hP1
              obtain ⟨hP, hD⟩ := va_join (wr := []) (w1 := [(om, .inr (3, [.int th, .int st, .int lo, .ref ob, .int bm.2.1, .int bm.2.2.1, .int bm.2.2.2.1, .int bm.2.2.2.2, .ref ok, .int km.2, .int qm.1, .int qm.2.1, .int qm.2.2.1, .int qm.2.2.2, .int bd, .int u_28.1, .int u_28.2.1, .int u_28.2.2.1, .int u_28.2.2.2])), (ob, .inl (cZ, 5200, .inl bm.1)), (ok, .inl (cK, 600, .inl km.1))]) hP hD [0, 1, 2] [] rfl rfl (by decide) (by decide) hk1 hFc hP1 hD1
              generalize H1 = H at hP hS ⊢
              have hP : va_P (dC, dI) vwCl [(om, .inr (3, [.int th, .int st, .int lo, .ref ob, .int bm.2.1, .int bm.2.2.1, .int bm.2.2.2.1, .int bm.2.2.2.2, .ref ok, .int km.2, .int qm.1, .int qm.2.1, .int qm.2.2.1, .int qm.2.2.2, .int bd, .int u_28.1, .int u_28.2.1, .int u_28.2.2.1, .int u_28.2.2.2])), (ob, .inl (cZ, 5200, .inl bm.1)), (ok, .inl (cK, 600, .inl km.1))] H := hP
              have hD : va_D A [(om, .inr (3, [.int th, .int st, .int lo, .ref ob, .int bm.2.1, .int bm.2.2.1, .int bm.2.2.2.1, .int bm.2.2.2.2, .ref ok, .int km.2, .int qm.1, .int qm.2.1, .int qm.2.2.1, .int qm.2.2.2, .int bd, .int u_28.1, .int u_28.2.1, .int u_28.2.2.1, .int u_28.2.2.2])), (ob, .inl (cZ, 5200, .inl bm.1)), (ok, .inl (cK, 600, .inl km.1))] := hD
              refine lv_iload_n hx hb dX3_skip_102 rfl (lv_at hl 1 rfl) ?_
              refine lv_if_eq (tgt := 119) hx hb dX3_skip_103 (by decide) (fun c_103 => ?_) (fun c_103 => absurd c_103 (by decide))
              obtain ⟨i_29, ei_29⟩ : ∃ y : Int32, y = nn + 1 := ⟨_, rfl⟩
              refine lv_iinc (v := i_29) (lv' := [(1, .int i_29), (3, .int r_25), (2, .int 0), (0, .ref om)]) hx hb dX3_skip_119 hl (k := 3) rfl (by rw [ei_29]; rfl) (by decide) rfl (fun ls hl => ?_)
              refine lv_aload_n hx hb dX3_skip_122 rfl (lv_at hl 3 rfl) ?_
              refine lv_iload_n hx hb dX3_skip_123 rfl (lv_at hl 1 rfl) ?_
              refine lv_iconst (v := 1) hx hb dX3_skip_124 (by decide) ?_
              refine lv_icmp_ne (tgt := 137) hx hb dX3_skip_125 (by decide) (fun c_125 => ?_) (fun c_125 => ?_)
              · refine lv_iconst (v := 0) hx hb dX3_skip_137 (by decide) ?_
                refine va_put (D := (dC, dI)) (ci := 3) (v := .int 0) (ty := .int) (C := RX3) (T := TX3) (N := 19) hx hb hts inGX3 tyX3 tyX3_ok nmX3 hown hK hP hD hS 0 rfl rfl 17 (by decide) (hts _ wd454) (fun _ h9 => h9) rfl (by decide +kernel) rfl rfl (Nat.le_of_ble_eq_true rfl) dX3_skip_138 (fun H locs hP hD hS => ?_)
                have hP : va_P (dC, dI) vwCl [(om, .inr (3, [.int th, .int st, .int lo, .ref ob, .int bm.2.1, .int bm.2.2.1, .int bm.2.2.2.1, .int bm.2.2.2.2, .ref ok, .int km.2, .int qm.1, .int qm.2.1, .int qm.2.2.1, .int qm.2.2.2, .int bd, .int u_28.1, .int u_28.2.1, .int 0, .int u_28.2.2.2])), (ob, .inl (cZ, 5200, .inl bm.1)), (ok, .inl (cK, 600, .inl km.1))] H := hP
                have hD : va_D A [(om, .inr (3, [.int th, .int st, .int lo, .ref ob, .int bm.2.1, .int bm.2.2.1, .int bm.2.2.2.1, .int bm.2.2.2.2, .ref ok, .int km.2, .int qm.1, .int qm.2.1, .int qm.2.2.1, .int qm.2.2.2, .int bd, .int u_28.1, .int u_28.2.1, .int 0, .int u_28.2.2.2])), (ob, .inl (cZ, 5200, .inl bm.1)), (ok, .inl (cK, 600, .inl km.1))] := hD
                refine lv_aload_n hx hb dX3_skip_141 rfl (lv_at hl 3 rfl) ?_
                refine va_get (D := (dC, dI)) (ci := 3) (v := .int st) (C := RX3) (T := TX3) (N := 19) hx hb hts inGX3 hown hK hP 0 rfl rfl 1 (by decide) (hts _ wd438) (fun _ h9 => h9) rfl dX3_skip_142 ?_
                refine lv_iconst (v := 1) hx hb dX3_skip_145 (by decide) ?_
                refine lv_icmp_le (tgt := 189) hx hb dX3_skip_146 (by decide) (fun c_146 => ?_) (fun c_146 => ?_)
                · refine lv_goto (tgt := 20) hx hb dX3_skip_189 (by decide) ?_
                  exact ih th bm km qm bd (u_28.1, u_28.2.1, 0, u_28.2.2.2) i_29 (hf.2.2 _ _ (ssX3_skip_20_17 st lo th bm km qm bd ym nn c_27 c_50 c_57 c_71 c_80 _ hw_26 _ hw_27 _ ei_29 c_125 c_146)) ((plX3_skip_l20_16 st lo n th bm km qm bd ym nn c_27 c_50 c_57 c_71 c_80 _ hw_26 _ hw_27 _ ei_29 c_125 c_146).trans hz) _ _ (hP.sub (ws' := [(om, .inr (3, [.int th, .int st, .int lo, .ref ob, .int bm.2.1, .int bm.2.2.1, .int bm.2.2.2.1, .int bm.2.2.2.2, .ref ok, .int km.2, .int qm.1, .int qm.2.1, .int qm.2.2.1, .int qm.2.2.2, .int bd, .int ((u_28.1, u_28.2.1, 0, u_28.2.2.2).1), .int ((u_28.1, u_28.2.1, 0, u_28.2.2.2).2.1), .int ((u_28.1, u_28.2.1, 0, u_28.2.2.2).2.2.1), .int ((u_28.1, u_28.2.1, 0, u_28.2.2.2).2.2.2)])), (ob, .inl (cZ, 5200, .inl bm.1)), (ok, .inl (cK, 600, .inl km.1))]) [0, 1, 2] rfl) (hD.sub (ws' := [(om, .inr (3, [.int th, .int st, .int lo, .ref ob, .int bm.2.1, .int bm.2.2.1, .int bm.2.2.2.1, .int bm.2.2.2.2, .ref ok, .int km.2, .int qm.1, .int qm.2.1, .int qm.2.2.1, .int qm.2.2.2, .int bd, .int ((u_28.1, u_28.2.1, 0, u_28.2.2.2).1), .int ((u_28.1, u_28.2.1, 0, u_28.2.2.2).2.1), .int ((u_28.1, u_28.2.1, 0, u_28.2.2.2).2.2.1), .int ((u_28.1, u_28.2.1, 0, u_28.2.2.2).2.2.2)])), (ob, .inl (cZ, 5200, .inl bm.1)), (ok, .inl (cK, 600, .inl km.1))]) [0, 1, 2] (by decide) rfl) hS ls (lv_sub hl [3, 0] rfl)
                · refine lv_aload_n hx hb dX3_skip_149 rfl (lv_at hl 3 rfl) ?_
                  refine va_get (D := (dC, dI)) (ci := 3) (v := .int 0) (C := RX3) (T := TX3) (N := 19) hx hb hts inGX3 hown hK hP 0 rfl rfl 17 (by decide) (hts _ wd454) (fun _ h9 => h9) rfl dX3_skip_150 ?_
                  refine lv_aload_n hx hb dX3_skip_153 rfl (lv_at hl 3 rfl) ?_
                  refine va_get (D := (dC, dI)) (ci := 3) (v := .int st) (C := RX3) (T := TX3) (N := 19) hx hb hts inGX3 hown hK hP 0 rfl rfl 1 (by decide) (hts _ wd438) (fun _ h9 => h9) rfl dX3_skip_154 ?_
                  refine lv_icmp_ne (tgt := 189) hx hb dX3_skip_157 (by decide) (fun c_157 => ?_) (fun c_157 => ?_)
                  · refine lv_goto (tgt := 20) hx hb dX3_skip_189 (by decide) ?_
                    exact ih th bm km qm bd (u_28.1, u_28.2.1, 0, u_28.2.2.2) i_29 (hf.2.2 _ _ (ssX3_skip_20_18 st lo th bm km qm bd ym nn c_27 c_50 c_57 c_71 c_80 _ hw_26 _ hw_27 _ ei_29 c_125 c_146 c_157)) ((plX3_skip_l20_17 st lo n th bm km qm bd ym nn c_27 c_50 c_57 c_71 c_80 _ hw_26 _ hw_27 _ ei_29 c_125 c_146 c_157).trans hz) _ _ (hP.sub (ws' := [(om, .inr (3, [.int th, .int st, .int lo, .ref ob, .int bm.2.1, .int bm.2.2.1, .int bm.2.2.2.1, .int bm.2.2.2.2, .ref ok, .int km.2, .int qm.1, .int qm.2.1, .int qm.2.2.1, .int qm.2.2.2, .int bd, .int ((u_28.1, u_28.2.1, 0, u_28.2.2.2).1), .int ((u_28.1, u_28.2.1, 0, u_28.2.2.2).2.1), .int ((u_28.1, u_28.2.1, 0, u_28.2.2.2).2.2.1), .int ((u_28.1, u_28.2.1, 0, u_28.2.2.2).2.2.2)])), (ob, .inl (cZ, 5200, .inl bm.1)), (ok, .inl (cK, 600, .inl km.1))]) [0, 1, 2] rfl) (hD.sub (ws' := [(om, .inr (3, [.int th, .int st, .int lo, .ref ob, .int bm.2.1, .int bm.2.2.1, .int bm.2.2.2.1, .int bm.2.2.2.2, .ref ok, .int km.2, .int qm.1, .int qm.2.1, .int qm.2.2.1, .int qm.2.2.2, .int bd, .int ((u_28.1, u_28.2.1, 0, u_28.2.2.2).1), .int ((u_28.1, u_28.2.1, 0, u_28.2.2.2).2.1), .int ((u_28.1, u_28.2.1, 0, u_28.2.2.2).2.2.1), .int ((u_28.1, u_28.2.1, 0, u_28.2.2.2).2.2.2)])), (ob, .inl (cZ, 5200, .inl bm.1)), (ok, .inl (cK, 600, .inl km.1))]) [0, 1, 2] (by decide) rfl) hS ls (lv_sub hl [3, 0] rfl)
                  · refine lv_aload_n hx hb dX3_skip_160 rfl (lv_at hl 3 rfl) ?_
                    refine va_get (D := (dC, dI)) (ci := 3) (v := .int u_28.1) (C := RX3) (T := TX3) (N := 19) hx hb hts inGX3 hown hK hP 0 rfl rfl 15 (by decide) (hts _ wd452) (fun _ h9 => h9) rfl dX3_skip_161 ?_
                    refine lv_bipush (v := 8) hx hb dX3_skip_164 (by decide) ?_
                    refine lv_irem hx hb dX3_skip_166 (by decide) ?_
                    refine lv_if_eq (tgt := 189) hx hb dX3_skip_167 (by decide) (fun c_167 => ?_) (fun c_167 => ?_)
                    · refine lv_goto (tgt := 20) hx hb dX3_skip_189 (by decide) ?_
                      exact ih th bm km qm bd (u_28.1, u_28.2.1, 0, u_28.2.2.2) i_29 (hf.2.2 _ _ (ssX3_skip_20_19 st lo th bm km qm bd ym nn c_27 c_50 c_57 c_71 c_80 _ hw_26 _ hw_27 _ ei_29 c_125 c_146 c_157 c_167)) ((plX3_skip_l20_18 st lo n th bm km qm bd ym nn c_27 c_50 c_57 c_71 c_80 _ hw_26 _ hw_27 _ ei_29 c_125 c_146 c_157 c_167).trans hz) _ _ (hP.sub (ws' := [(om, .inr (3, [.int th, .int st, .int lo, .ref ob, .int bm.2.1, .int bm.2.2.1, .int bm.2.2.2.1, .int bm.2.2.2.2, .ref ok, .int km.2, .int qm.1, .int qm.2.1, .int qm.2.2.1, .int qm.2.2.2, .int bd, .int ((u_28.1, u_28.2.1, 0, u_28.2.2.2).1), .int ((u_28.1, u_28.2.1, 0, u_28.2.2.2).2.1), .int ((u_28.1, u_28.2.1, 0, u_28.2.2.2).2.2.1), .int ((u_28.1, u_28.2.1, 0, u_28.2.2.2).2.2.2)])), (ob, .inl (cZ, 5200, .inl bm.1)), (ok, .inl (cK, 600, .inl km.1))]) [0, 1, 2] rfl) (hD.sub (ws' := [(om, .inr (3, [.int th, .int st, .int lo, .ref ob, .int bm.2.1, .int bm.2.2.1, .int bm.2.2.2.1, .int bm.2.2.2.2, .ref ok, .int km.2, .int qm.1, .int qm.2.1, .int qm.2.2.1, .int qm.2.2.2, .int bd, .int ((u_28.1, u_28.2.1, 0, u_28.2.2.2).1), .int ((u_28.1, u_28.2.1, 0, u_28.2.2.2).2.1), .int ((u_28.1, u_28.2.1, 0, u_28.2.2.2).2.2.1), .int ((u_28.1, u_28.2.1, 0, u_28.2.2.2).2.2.2)])), (ob, .inl (cZ, 5200, .inl bm.1)), (ok, .inl (cK, 600, .inl km.1))]) [0, 1, 2] (by decide) rfl) hS ls (lv_sub hl [3, 0] rfl)
                    · refine lv_aload_n hx hb dX3_skip_170 rfl (lv_at hl 3 rfl) ?_
                      refine lv_dup hx hb dX3_skip_171 rfl ?_
                      refine va_get (D := (dC, dI)) (ci := 3) (v := .int u_28.2.1) (C := RX3) (T := TX3) (N := 19) hx hb hts inGX3 hown hK hP 0 rfl rfl 16 (by decide) (hts _ wd453) (fun _ h9 => h9) rfl dX3_skip_172 ?_
                      refine lv_iconst (v := 1) hx hb dX3_skip_175 (by decide) ?_
                      refine lv_iadd hx hb dX3_skip_176 ?_
                      refine lv_topi (fun f_30 ef_30 => ?_)
                      refine va_put (D := (dC, dI)) (ci := 3) (v := .int f_30) (ty := .int) (C := RX3) (T := TX3) (N := 19) hx hb hts inGX3 tyX3 tyX3_ok nmX3 hown hK hP hD hS 0 rfl rfl 16 (by decide) (hts _ wd453) (fun _ h9 => h9) rfl (by decide +kernel) rfl rfl (Nat.le_of_ble_eq_true rfl) dX3_skip_177 (fun H locs hP hD hS => ?_)
                      have hP : va_P (dC, dI) vwCl [(om, .inr (3, [.int th, .int st, .int lo, .ref ob, .int bm.2.1, .int bm.2.2.1, .int bm.2.2.2.1, .int bm.2.2.2.2, .ref ok, .int km.2, .int qm.1, .int qm.2.1, .int qm.2.2.1, .int qm.2.2.2, .int bd, .int u_28.1, .int f_30, .int 0, .int u_28.2.2.2])), (ob, .inl (cZ, 5200, .inl bm.1)), (ok, .inl (cK, 600, .inl km.1))] H := hP
                      have hD : va_D A [(om, .inr (3, [.int th, .int st, .int lo, .ref ob, .int bm.2.1, .int bm.2.2.1, .int bm.2.2.2.1, .int bm.2.2.2.2, .ref ok, .int km.2, .int qm.1, .int qm.2.1, .int qm.2.2.1, .int qm.2.2.2, .int bd, .int u_28.1, .int f_30, .int 0, .int u_28.2.2.2])), (ob, .inl (cZ, 5200, .inl bm.1)), (ok, .inl (cK, 600, .inl km.1))] := hD
                      refine lv_aload_n hx hb dX3_skip_180 rfl (lv_at hl 3 rfl) ?_
                      have hPc := hP.sub (ws' := [(om, .inr (3, [.int th, .int st, .int lo, .ref ob, .int bm.2.1, .int bm.2.2.1, .int bm.2.2.2.1, .int bm.2.2.2.2, .ref ok, .int km.2, .int qm.1, .int qm.2.1, .int qm.2.2.1, .int qm.2.2.2, .int bd, .int u_28.1, .int f_30, .int 0, .int u_28.2.2.2])), (ob, .inl (cZ, 5200, .inl bm.1)), (ok, .inl (cK, 600, .inl km.1))]) [0, 1, 2] rfl
                      have hKc := hK.sub (tys' := [(cZ, .boolean), (cK, .int)]) [0, 1] rfl
                      have hDc := hD.sub (ws' := [(om, .inr (3, [.int th, .int st, .int lo, .ref ob, .int bm.2.1, .int bm.2.2.1, .int bm.2.2.2.1, .int bm.2.2.2.2, .ref ok, .int km.2, .int qm.1, .int qm.2.1, .int qm.2.2.1, .int qm.2.2.2, .int bd, .int u_28.1, .int f_30, .int 0, .int u_28.2.2.2])), (ob, .inl (cZ, 5200, .inl bm.1)), (ok, .inl (cK, 600, .inl km.1))]) [0, 1, 2] (by decide) rfl
                      have hFc := va_free (wc := [(om, .inr (3, [.int th, .int st, .int lo, .ref ob, .int bm.2.1, .int bm.2.2.1, .int bm.2.2.2.1, .int bm.2.2.2.2, .ref ok, .int km.2, .int qm.1, .int qm.2.1, .int qm.2.2.1, .int qm.2.2.2, .int bd, .int u_28.1, .int f_30, .int 0, .int u_28.2.2.2])), (ob, .inl (cZ, 5200, .inl bm.1)), (ok, .inl (cK, 600, .inl km.1))]) hD hS hA [0, 1, 2] rfl
                      refine va_callv (va_runV (As := []) (rest := []) ⟨hx, hb, hml, hown, hts⟩ (mX3_goOn l dC dI cZ cK om ob ok H.size st lo th bm km qm bd (u_28.1, f_30, 0, u_28.2.2.2) (sk_tT hf.1 (by first | exact hf.2.1 (Or.inl c_27) | exact hf.2.1 (Or.inr ⟨c_35, c_42⟩)) (by assumption) c_167)) (cwV 0 hts (gV wd572 wd573 wd22 wd30 wd574) rfl rfl rfl (by decide +kernel) ⟨Nat.le_of_ble_eq_true rfl, Nat.le_of_ble_eq_true rfl⟩) ⟨fb_rw, va_recv hKc hPc (ci := 3) (q0 := 0) rfl rfl, pre_rw hPc hKc hDc hZ⟩ rfl rfl hl.1 rfl (lv_room (Nat.le_of_ble_eq_true rfl)) dX3_skip_181 ⟨Nat.le_of_ble_eq_true rfl, Nat.le_of_ble_eq_true rfl⟩) hS (fun q _ h => hFc q h) hFc (fun u_32 t H1 locs ht hvm hw_31 hB hz1 hk1 hS => ?_)
                      obtain ⟨hP1, hD1⟩ := hB
                      rw [ht] at hP1
                      obtain ⟨hP, hD⟩ := va_join (wr := []) (w1 := [(om, .inr (3, [.int th, .int st, .int lo, .ref ob, .int bm.2.1, .int bm.2.2.1, .int bm.2.2.2.1, .int bm.2.2.2.2, .ref ok, .int km.2, .int qm.1, .int qm.2.1, .int qm.2.2.1, .int qm.2.2.2, .int bd, .int u_32.1, .int u_32.2.1, .int u_32.2.2.1, .int u_32.2.2.2])), (ob, .inl (cZ, 5200, .inl bm.1)), (ok, .inl (cK, 600, .inl km.1))]) hP hD [0, 1, 2] [] rfl rfl (by decide) (by decide) hk1 hFc hP1 hD1
                      generalize H1 = H at hP hS ⊢
                      have hP : va_P (dC, dI) vwCl [(om, .inr (3, [.int th, .int st, .int lo, .ref ob, .int bm.2.1, .int bm.2.2.1, .int bm.2.2.2.1, .int bm.2.2.2.2, .ref ok, .int km.2, .int qm.1, .int qm.2.1, .int qm.2.2.1, .int qm.2.2.2, .int bd, .int u_32.1, .int u_32.2.1, .int u_32.2.2.1, .int u_32.2.2.2])), (ob, .inl (cZ, 5200, .inl bm.1)), (ok, .inl (cK, 600, .inl km.1))] H := hP
                      have hD : va_D A [(om, .inr (3, [.int th, .int st, .int lo, .ref ob, .int bm.2.1, .int bm.2.2.1, .int bm.2.2.2.1, .int bm.2.2.2.2, .ref ok, .int km.2, .int qm.1, .int qm.2.1, .int qm.2.2.1, .int qm.2.2.2, .int bd, .int u_32.1, .int u_32.2.1, .int u_32.2.2.1, .int u_32.2.2.2])), (ob, .inl (cZ, 5200, .inl bm.1)), (ok, .inl (cK, 600, .inl km.1))] := hD
                      refine lv_aload_n hx hb dX3_skip_184 rfl (lv_at hl 3 rfl) ?_
                      refine lv_iconst (v := 0) hx hb dX3_skip_185 (by decide) ?_
                      refine va_put (D := (dC, dI)) (ci := 3) (v := .int 0) (ty := .int) (C := RX3) (T := TX3) (N := 19) hx hb hts inGX3 tyX3 tyX3_ok nmX3 hown hK hP hD hS 0 rfl rfl 17 (by decide) (hts _ wd454) (fun _ h9 => h9) rfl (by decide +kernel) rfl rfl (Nat.le_of_ble_eq_true rfl) dX3_skip_186 (fun H locs hP hD hS => ?_)
                      have hP : va_P (dC, dI) vwCl [(om, .inr (3, [.int th, .int st, .int lo, .ref ob, .int bm.2.1, .int bm.2.2.1, .int bm.2.2.2.1, .int bm.2.2.2.2, .ref ok, .int km.2, .int qm.1, .int qm.2.1, .int qm.2.2.1, .int qm.2.2.2, .int bd, .int u_32.1, .int u_32.2.1, .int 0, .int u_32.2.2.2])), (ob, .inl (cZ, 5200, .inl bm.1)), (ok, .inl (cK, 600, .inl km.1))] H := hP
                      have hD : va_D A [(om, .inr (3, [.int th, .int st, .int lo, .ref ob, .int bm.2.1, .int bm.2.2.1, .int bm.2.2.2.1, .int bm.2.2.2.2, .ref ok, .int km.2, .int qm.1, .int qm.2.1, .int qm.2.2.1, .int qm.2.2.2, .int bd, .int u_32.1, .int u_32.2.1, .int 0, .int u_32.2.2.2])), (ob, .inl (cZ, 5200, .inl bm.1)), (ok, .inl (cK, 600, .inl km.1))] := hD
                      refine lv_goto (tgt := 20) hx hb dX3_skip_189 (by decide) ?_
                      exact ih th bm km qm bd (u_32.1, u_32.2.1, 0, u_32.2.2.2) i_29 (hf.2.2 _ _ (ssX3_skip_20_20 st lo th bm km qm bd ym nn c_27 c_50 c_57 c_71 c_80 _ hw_26 _ hw_27 _ ei_29 c_125 c_146 c_157 c_167 _ ef_30 _ hw_31)) ((plX3_skip_l20_19 st lo n th bm km qm bd ym nn c_27 c_50 c_57 c_71 c_80 _ hw_26 _ hw_27 _ ei_29 c_125 c_146 c_157 c_167 _ ef_30 _ hw_31).trans hz) _ _ (hP.sub (ws' := [(om, .inr (3, [.int th, .int st, .int lo, .ref ob, .int bm.2.1, .int bm.2.2.1, .int bm.2.2.2.1, .int bm.2.2.2.2, .ref ok, .int km.2, .int qm.1, .int qm.2.1, .int qm.2.2.1, .int qm.2.2.2, .int bd, .int ((u_32.1, u_32.2.1, 0, u_32.2.2.2).1), .int ((u_32.1, u_32.2.1, 0, u_32.2.2.2).2.1), .int ((u_32.1, u_32.2.1, 0, u_32.2.2.2).2.2.1), .int ((u_32.1, u_32.2.1, 0, u_32.2.2.2).2.2.2)])), (ob, .inl (cZ, 5200, .inl bm.1)), (ok, .inl (cK, 600, .inl km.1))]) [0, 1, 2] rfl) (hD.sub (ws' := [(om, .inr (3, [.int th, .int st, .int lo, .ref ob, .int bm.2.1, .int bm.2.2.1, .int bm.2.2.2.1, .int bm.2.2.2.2, .ref ok, .int km.2, .int qm.1, .int qm.2.1, .int qm.2.2.1, .int qm.2.2.2, .int bd, .int ((u_32.1, u_32.2.1, 0, u_32.2.2.2).1), .int ((u_32.1, u_32.2.1, 0, u_32.2.2.2).2.1), .int ((u_32.1, u_32.2.1, 0, u_32.2.2.2).2.2.1), .int ((u_32.1, u_32.2.1, 0, u_32.2.2.2).2.2.2)])), (ob, .inl (cZ, 5200, .inl bm.1)), (ok, .inl (cK, 600, .inl km.1))]) [0, 1, 2] (by decide) rfl) hS ls (lv_sub hl [3, 0] rfl)
              · refine lv_aload_n hx hb dX3_skip_128 rfl (lv_at hl 3 rfl) ?_
                refine va_get (D := (dC, dI)) (ci := 3) (v := .int u_28.2.2.1) (C := RX3) (T := TX3) (N := 19) hx hb hts inGX3 hown hK hP 0 rfl rfl 17 (by decide) (hts _ wd454) (fun _ h9 => h9) rfl dX3_skip_129 ?_
                refine lv_iconst (v := 1) hx hb dX3_skip_132 (by decide) ?_
                refine lv_iadd hx hb dX3_skip_133 ?_
                refine lv_goto (tgt := 138) hx hb dX3_skip_134 (by decide) ?_
                refine lv_topi (fun f_33 ef_33 => ?_)
                refine va_put (D := (dC, dI)) (ci := 3) (v := .int f_33) (ty := .int) (C := RX3) (T := TX3) (N := 19) hx hb hts inGX3 tyX3 tyX3_ok nmX3 hown hK hP hD hS 0 rfl rfl 17 (by decide) (hts _ wd454) (fun _ h9 => h9) rfl (by decide +kernel) rfl rfl (Nat.le_of_ble_eq_true rfl) dX3_skip_138 (fun H locs hP hD hS => ?_)
                have hP : va_P (dC, dI) vwCl [(om, .inr (3, [.int th, .int st, .int lo, .ref ob, .int bm.2.1, .int bm.2.2.1, .int bm.2.2.2.1, .int bm.2.2.2.2, .ref ok, .int km.2, .int qm.1, .int qm.2.1, .int qm.2.2.1, .int qm.2.2.2, .int bd, .int u_28.1, .int u_28.2.1, .int f_33, .int u_28.2.2.2])), (ob, .inl (cZ, 5200, .inl bm.1)), (ok, .inl (cK, 600, .inl km.1))] H := hP
                have hD : va_D A [(om, .inr (3, [.int th, .int st, .int lo, .ref ob, .int bm.2.1, .int bm.2.2.1, .int bm.2.2.2.1, .int bm.2.2.2.2, .ref ok, .int km.2, .int qm.1, .int qm.2.1, .int qm.2.2.1, .int qm.2.2.2, .int bd, .int u_28.1, .int u_28.2.1, .int f_33, .int u_28.2.2.2])), (ob, .inl (cZ, 5200, .inl bm.1)), (ok, .inl (cK, 600, .inl km.1))] := hD
                refine lv_aload_n hx hb dX3_skip_141 rfl (lv_at hl 3 rfl) ?_
                refine va_get (D := (dC, dI)) (ci := 3) (v := .int st) (C := RX3) (T := TX3) (N := 19) hx hb hts inGX3 hown hK hP 0 rfl rfl 1 (by decide) (hts _ wd438) (fun _ h9 => h9) rfl dX3_skip_142 ?_
                refine lv_iconst (v := 1) hx hb dX3_skip_145 (by decide) ?_
                refine lv_icmp_le (tgt := 189) hx hb dX3_skip_146 (by decide) (fun c_146 => ?_) (fun c_146 => ?_)
                · refine lv_goto (tgt := 20) hx hb dX3_skip_189 (by decide) ?_
                  exact ih th bm km qm bd (u_28.1, u_28.2.1, f_33, u_28.2.2.2) i_29 (hf.2.2 _ _ (ssX3_skip_20_21 st lo th bm km qm bd ym nn c_27 c_50 c_57 c_71 c_80 _ hw_26 _ hw_27 _ ei_29 c_125 _ ef_33 c_146)) ((plX3_skip_l20_20 st lo n th bm km qm bd ym nn c_27 c_50 c_57 c_71 c_80 _ hw_26 _ hw_27 _ ei_29 c_125 _ ef_33 c_146).trans hz) _ _ (hP.sub (ws' := [(om, .inr (3, [.int th, .int st, .int lo, .ref ob, .int bm.2.1, .int bm.2.2.1, .int bm.2.2.2.1, .int bm.2.2.2.2, .ref ok, .int km.2, .int qm.1, .int qm.2.1, .int qm.2.2.1, .int qm.2.2.2, .int bd, .int ((u_28.1, u_28.2.1, f_33, u_28.2.2.2).1), .int ((u_28.1, u_28.2.1, f_33, u_28.2.2.2).2.1), .int ((u_28.1, u_28.2.1, f_33, u_28.2.2.2).2.2.1), .int ((u_28.1, u_28.2.1, f_33, u_28.2.2.2).2.2.2)])), (ob, .inl (cZ, 5200, .inl bm.1)), (ok, .inl (cK, 600, .inl km.1))]) [0, 1, 2] rfl) (hD.sub (ws' := [(om, .inr (3, [.int th, .int st, .int lo, .ref ob, .int bm.2.1, .int bm.2.2.1, .int bm.2.2.2.1, .int bm.2.2.2.2, .ref ok, .int km.2, .int qm.1, .int qm.2.1, .int qm.2.2.1, .int qm.2.2.2, .int bd, .int ((u_28.1, u_28.2.1, f_33, u_28.2.2.2).1), .int ((u_28.1, u_28.2.1, f_33, u_28.2.2.2).2.1), .int ((u_28.1, u_28.2.1, f_33, u_28.2.2.2).2.2.1), .int ((u_28.1, u_28.2.1, f_33, u_28.2.2.2).2.2.2)])), (ob, .inl (cZ, 5200, .inl bm.1)), (ok, .inl (cK, 600, .inl km.1))]) [0, 1, 2] (by decide) rfl) hS ls (lv_sub hl [3, 0] rfl)
                · refine lv_aload_n hx hb dX3_skip_149 rfl (lv_at hl 3 rfl) ?_
                  refine va_get (D := (dC, dI)) (ci := 3) (v := .int f_33) (C := RX3) (T := TX3) (N := 19) hx hb hts inGX3 hown hK hP 0 rfl rfl 17 (by decide) (hts _ wd454) (fun _ h9 => h9) rfl dX3_skip_150 ?_
                  refine lv_aload_n hx hb dX3_skip_153 rfl (lv_at hl 3 rfl) ?_
                  refine va_get (D := (dC, dI)) (ci := 3) (v := .int st) (C := RX3) (T := TX3) (N := 19) hx hb hts inGX3 hown hK hP 0 rfl rfl 1 (by decide) (hts _ wd438) (fun _ h9 => h9) rfl dX3_skip_154 ?_
                  refine lv_icmp_ne (tgt := 189) hx hb dX3_skip_157 (by decide) (fun c_157 => ?_) (fun c_157 => ?_)
                  · refine lv_goto (tgt := 20) hx hb dX3_skip_189 (by decide) ?_
                    exact ih th bm km qm bd (u_28.1, u_28.2.1, f_33, u_28.2.2.2) i_29 (hf.2.2 _ _ (ssX3_skip_20_22 st lo th bm km qm bd ym nn c_27 c_50 c_57 c_71 c_80 _ hw_26 _ hw_27 _ ei_29 c_125 _ ef_33 c_146 c_157)) ((plX3_skip_l20_21 st lo n th bm km qm bd ym nn c_27 c_50 c_57 c_71 c_80 _ hw_26 _ hw_27 _ ei_29 c_125 _ ef_33 c_146 c_157).trans hz) _ _ (hP.sub (ws' := [(om, .inr (3, [.int th, .int st, .int lo, .ref ob, .int bm.2.1, .int bm.2.2.1, .int bm.2.2.2.1, .int bm.2.2.2.2, .ref ok, .int km.2, .int qm.1, .int qm.2.1, .int qm.2.2.1, .int qm.2.2.2, .int bd, .int ((u_28.1, u_28.2.1, f_33, u_28.2.2.2).1), .int ((u_28.1, u_28.2.1, f_33, u_28.2.2.2).2.1), .int ((u_28.1, u_28.2.1, f_33, u_28.2.2.2).2.2.1), .int ((u_28.1, u_28.2.1, f_33, u_28.2.2.2).2.2.2)])), (ob, .inl (cZ, 5200, .inl bm.1)), (ok, .inl (cK, 600, .inl km.1))]) [0, 1, 2] rfl) (hD.sub (ws' := [(om, .inr (3, [.int th, .int st, .int lo, .ref ob, .int bm.2.1, .int bm.2.2.1, .int bm.2.2.2.1, .int bm.2.2.2.2, .ref ok, .int km.2, .int qm.1, .int qm.2.1, .int qm.2.2.1, .int qm.2.2.2, .int bd, .int ((u_28.1, u_28.2.1, f_33, u_28.2.2.2).1), .int ((u_28.1, u_28.2.1, f_33, u_28.2.2.2).2.1), .int ((u_28.1, u_28.2.1, f_33, u_28.2.2.2).2.2.1), .int ((u_28.1, u_28.2.1, f_33, u_28.2.2.2).2.2.2)])), (ob, .inl (cZ, 5200, .inl bm.1)), (ok, .inl (cK, 600, .inl km.1))]) [0, 1, 2] (by decide) rfl) hS ls (lv_sub hl [3, 0] rfl)
                  · refine lv_aload_n hx hb dX3_skip_160 rfl (lv_at hl 3 rfl) ?_
                    refine va_get (D := (dC, dI)) (ci := 3) (v := .int u_28.1) (C := RX3) (T := TX3) (N := 19) hx hb hts inGX3 hown hK hP 0 rfl rfl 15 (by decide) (hts _ wd452) (fun _ h9 => h9) rfl dX3_skip_161 ?_
                    refine lv_bipush (v := 8) hx hb dX3_skip_164 (by decide) ?_
                    refine lv_irem hx hb dX3_skip_166 (by decide) ?_
                    refine lv_if_eq (tgt := 189) hx hb dX3_skip_167 (by decide) (fun c_167 => ?_) (fun c_167 => ?_)
                    · refine lv_goto (tgt := 20) hx hb dX3_skip_189 (by decide) ?_
                      exact ih th bm km qm bd (u_28.1, u_28.2.1, f_33, u_28.2.2.2) i_29 (hf.2.2 _ _ (ssX3_skip_20_23 st lo th bm km qm bd ym nn c_27 c_50 c_57 c_71 c_80 _ hw_26 _ hw_27 _ ei_29 c_125 _ ef_33 c_146 c_157 c_167)) ((plX3_skip_l20_22 st lo n th bm km qm bd ym nn c_27 c_50 c_57 c_71 c_80 _ hw_26 _ hw_27 _ ei_29 c_125 _ ef_33 c_146 c_157 c_167).trans hz) _ _ (hP.sub (ws' := [(om, .inr (3, [.int th, .int st, .int lo, .ref ob, .int bm.2.1, .int bm.2.2.1, .int bm.2.2.2.1, .int bm.2.2.2.2, .ref ok, .int km.2, .int qm.1, .int qm.2.1, .int qm.2.2.1, .int qm.2.2.2, .int bd, .int ((u_28.1, u_28.2.1, f_33, u_28.2.2.2).1), .int ((u_28.1, u_28.2.1, f_33, u_28.2.2.2).2.1), .int ((u_28.1, u_28.2.1, f_33, u_28.2.2.2).2.2.1), .int ((u_28.1, u_28.2.1, f_33, u_28.2.2.2).2.2.2)])), (ob, .inl (cZ, 5200, .inl bm.1)), (ok, .inl (cK, 600, .inl km.1))]) [0, 1, 2] rfl) (hD.sub (ws' := [(om, .inr (3, [.int th, .int st, .int lo, .ref ob, .int bm.2.1, .int bm.2.2.1, .int bm.2.2.2.1, .int bm.2.2.2.2, .ref ok, .int km.2, .int qm.1, .int qm.2.1, .int qm.2.2.1, .int qm.2.2.2, .int bd, .int ((u_28.1, u_28.2.1, f_33, u_28.2.2.2).1), .int ((u_28.1, u_28.2.1, f_33, u_28.2.2.2).2.1), .int ((u_28.1, u_28.2.1, f_33, u_28.2.2.2).2.2.1), .int ((u_28.1, u_28.2.1, f_33, u_28.2.2.2).2.2.2)])), (ob, .inl (cZ, 5200, .inl bm.1)), (ok, .inl (cK, 600, .inl km.1))]) [0, 1, 2] (by decide) rfl) hS ls (lv_sub hl [3, 0] rfl)
                    · refine lv_aload_n hx hb dX3_skip_170 rfl (lv_at hl 3 rfl) ?_
                      refine lv_dup hx hb dX3_skip_171 rfl ?_
                      refine va_get (D := (dC, dI)) (ci := 3) (v := .int u_28.2.1) (C := RX3) (T := TX3) (N := 19) hx hb hts inGX3 hown hK hP 0 rfl rfl 16 (by decide) (hts _ wd453) (fun _ h9 => h9) rfl dX3_skip_172 ?_
                      refine lv_iconst (v := 1) hx hb dX3_skip_175 (by decide) ?_
                      refine lv_iadd hx hb dX3_skip_176 ?_
                      refine lv_topi (fun f_34 ef_34 => ?_)
                      refine va_put (D := (dC, dI)) (ci := 3) (v := .int f_34) (ty := .int) (C := RX3) (T := TX3) (N := 19) hx hb hts inGX3 tyX3 tyX3_ok nmX3 hown hK hP hD hS 0 rfl rfl 16 (by decide) (hts _ wd453) (fun _ h9 => h9) rfl (by decide +kernel) rfl rfl (Nat.le_of_ble_eq_true rfl) dX3_skip_177 (fun H locs hP hD hS => ?_)
                      have hP : va_P (dC, dI) vwCl [(om, .inr (3, [.int th, .int st, .int lo, .ref ob, .int bm.2.1, .int bm.2.2.1, .int bm.2.2.2.1, .int bm.2.2.2.2, .ref ok, .int km.2, .int qm.1, .int qm.2.1, .int qm.2.2.1, .int qm.2.2.2, .int bd, .int u_28.1, .int f_34, .int f_33, .int u_28.2.2.2])), (ob, .inl (cZ, 5200, .inl bm.1)), (ok, .inl (cK, 600, .inl km.1))] H := hP
                      have hD : va_D A [(om, .inr (3, [.int th, .int st, .int lo, .ref ob, .int bm.2.1, .int bm.2.2.1, .int bm.2.2.2.1, .int bm.2.2.2.2, .ref ok, .int km.2, .int qm.1, .int qm.2.1, .int qm.2.2.1, .int qm.2.2.2, .int bd, .int u_28.1, .int f_34, .int f_33, .int u_28.2.2.2])), (ob, .inl (cZ, 5200, .inl bm.1)), (ok, .inl (cK, 600, .inl km.1))] := hD
                      refine lv_aload_n hx hb dX3_skip_180 rfl (lv_at hl 3 rfl) ?_
                      have hPc := hP.sub (ws' := [(om, .inr (3, [.int th, .int st, .int lo, .ref ob, .int bm.2.1, .int bm.2.2.1, .int bm.2.2.2.1, .int bm.2.2.2.2, .ref ok, .int km.2, .int qm.1, .int qm.2.1, .int qm.2.2.1, .int qm.2.2.2, .int bd, .int u_28.1, .int f_34, .int f_33, .int u_28.2.2.2])), (ob, .inl (cZ, 5200, .inl bm.1)), (ok, .inl (cK, 600, .inl km.1))]) [0, 1, 2] rfl
                      have hKc := hK.sub (tys' := [(cZ, .boolean), (cK, .int)]) [0, 1] rfl
                      have hDc := hD.sub (ws' := [(om, .inr (3, [.int th, .int st, .int lo, .ref ob, .int bm.2.1, .int bm.2.2.1, .int bm.2.2.2.1, .int bm.2.2.2.2, .ref ok, .int km.2, .int qm.1, .int qm.2.1, .int qm.2.2.1, .int qm.2.2.2, .int bd, .int u_28.1, .int f_34, .int f_33, .int u_28.2.2.2])), (ob, .inl (cZ, 5200, .inl bm.1)), (ok, .inl (cK, 600, .inl km.1))]) [0, 1, 2] (by decide) rfl
                      have hFc := va_free (wc := [(om, .inr (3, [.int th, .int st, .int lo, .ref ob, .int bm.2.1, .int bm.2.2.1, .int bm.2.2.2.1, .int bm.2.2.2.2, .ref ok, .int km.2, .int qm.1, .int qm.2.1, .int qm.2.2.1, .int qm.2.2.2, .int bd, .int u_28.1, .int f_34, .int f_33, .int u_28.2.2.2])), (ob, .inl (cZ, 5200, .inl bm.1)), (ok, .inl (cK, 600, .inl km.1))]) hD hS hA [0, 1, 2] rfl
                      refine va_callv (va_runV (As := []) (rest := []) ⟨hx, hb, hml, hown, hts⟩ (mX3_goOn l dC dI cZ cK om ob ok H.size st lo th bm km qm bd (u_28.1, f_34, f_33, u_28.2.2.2) (sk_tT hf.1 (by first | exact hf.2.1 (Or.inl c_27) | exact hf.2.1 (Or.inr ⟨c_35, c_42⟩)) (by assumption) c_167)) (cwV 0 hts (gV wd572 wd573 wd22 wd30 wd574) rfl rfl rfl (by decide +kernel) ⟨Nat.le_of_ble_eq_true rfl, Nat.le_of_ble_eq_true rfl⟩) ⟨fb_rw, va_recv hKc hPc (ci := 3) (q0 := 0) rfl rfl, pre_rw hPc hKc hDc hZ⟩ rfl rfl hl.1 rfl (lv_room (Nat.le_of_ble_eq_true rfl)) dX3_skip_181 ⟨Nat.le_of_ble_eq_true rfl, Nat.le_of_ble_eq_true rfl⟩) hS (fun q _ h => hFc q h) hFc (fun u_36 t H1 locs ht hvm hw_35 hB hz1 hk1 hS => ?_)
                      obtain ⟨hP1, hD1⟩ := hB
                      rw [ht] at hP1
                      obtain ⟨hP, hD⟩ := va_join (wr := []) (w1 := [(om, .inr (3, [.int th, .int st, .int lo, .ref ob, .int bm.2.1, .int bm.2.2.1, .int bm.2.2.2.1, .int bm.2.2.2.2, .ref ok, .int km.2, .int qm.1, .int qm.2.1, .int qm.2.2.1, .int qm.2.2.2, .int bd, .int u_36.1, .int u_36.2.1, .int u_36.2.2.1, .int u_36.2.2.2])), (ob, .inl (cZ, 5200, .inl bm.1)), (ok, .inl (cK, 600, .inl km.1))]) hP hD [0, 1, 2] [] rfl rfl (by decide) (by decide) hk1 hFc hP1 hD1
                      generalize H1 = H at hP hS ⊢
                      have hP : va_P (dC, dI) vwCl [(om, .inr (3, [.int th, .int st, .int lo, .ref ob, .int bm.2.1, .int bm.2.2.1, .int bm.2.2.2.1, .int bm.2.2.2.2, .ref ok, .int km.2, .int qm.1, .int qm.2.1, .int qm.2.2.1, .int qm.2.2.2, .int bd, .int u_36.1, .int u_36.2.1, .int u_36.2.2.1, .int u_36.2.2.2])), (ob, .inl (cZ, 5200, .inl bm.1)), (ok, .inl (cK, 600, .inl km.1))] H := hP
                      have hD : va_D A [(om, .inr (3, [.int th, .int st, .int lo, .ref ob, .int bm.2.1, .int bm.2.2.1, .int bm.2.2.2.1, .int bm.2.2.2.2, .ref ok, .int km.2, .int qm.1, .int qm.2.1, .int qm.2.2.1, .int qm.2.2.2, .int bd, .int u_36.1, .int u_36.2.1, .int u_36.2.2.1, .int u_36.2.2.2])), (ob, .inl (cZ, 5200, .inl bm.1)), (ok, .inl (cK, 600, .inl km.1))] := hD
                      refine lv_aload_n hx hb dX3_skip_184 rfl (lv_at hl 3 rfl) ?_
                      refine lv_iconst (v := 0) hx hb dX3_skip_185 (by decide) ?_
                      refine va_put (D := (dC, dI)) (ci := 3) (v := .int 0) (ty := .int) (C := RX3) (T := TX3) (N := 19) hx hb hts inGX3 tyX3 tyX3_ok nmX3 hown hK hP hD hS 0 rfl rfl 17 (by decide) (hts _ wd454) (fun _ h9 => h9) rfl (by decide +kernel) rfl rfl (Nat.le_of_ble_eq_true rfl) dX3_skip_186 (fun H locs hP hD hS => ?_)
                      have hP : va_P (dC, dI) vwCl [(om, .inr (3, [.int th, .int st, .int lo, .ref ob, .int bm.2.1, .int bm.2.2.1, .int bm.2.2.2.1, .int bm.2.2.2.2, .ref ok, .int km.2, .int qm.1, .int qm.2.1, .int qm.2.2.1, .int qm.2.2.2, .int bd, .int u_36.1, .int u_36.2.1, .int 0, .int u_36.2.2.2])), (ob, .inl (cZ, 5200, .inl bm.1)), (ok, .inl (cK, 600, .inl km.1))] H := hP
                      have hD : va_D A [(om, .inr (3, [.int th, .int st, .int lo, .ref ob, .int bm.2.1, .int bm.2.2.1, .int bm.2.2.2.1, .int bm.2.2.2.2, .ref ok, .int km.2, .int qm.1, .int qm.2.1, .int qm.2.2.1, .int qm.2.2.2, .int bd, .int u_36.1, .int u_36.2.1, .int 0, .int u_36.2.2.2])), (ob, .inl (cZ, 5200, .inl bm.1)), (ok, .inl (cK, 600, .inl km.1))] := hD
                      refine lv_goto (tgt := 20) hx hb dX3_skip_189 (by decide) ?_
                      exact ih th bm km qm bd (u_36.1, u_36.2.1, 0, u_36.2.2.2) i_29 (hf.2.2 _ _ (ssX3_skip_20_24 st lo th bm km qm bd ym nn c_27 c_50 c_57 c_71 c_80 _ hw_26 _ hw_27 _ ei_29 c_125 _ ef_33 c_146 c_157 c_167 _ ef_34 _ hw_35)) ((plX3_skip_l20_23 st lo n th bm km qm bd ym nn c_27 c_50 c_57 c_71 c_80 _ hw_26 _ hw_27 _ ei_29 c_125 _ ef_33 c_146 c_157 c_167 _ ef_34 _ hw_35).trans hz) _ _ (hP.sub (ws' := [(om, .inr (3, [.int th, .int st, .int lo, .ref ob, .int bm.2.1, .int bm.2.2.1, .int bm.2.2.2.1, .int bm.2.2.2.2, .ref ok, .int km.2, .int qm.1, .int qm.2.1, .int qm.2.2.1, .int qm.2.2.2, .int bd, .int ((u_36.1, u_36.2.1, 0, u_36.2.2.2).1), .int ((u_36.1, u_36.2.1, 0, u_36.2.2.2).2.1), .int ((u_36.1, u_36.2.1, 0, u_36.2.2.2).2.2.1), .int ((u_36.1, u_36.2.1, 0, u_36.2.2.2).2.2.2)])), (ob, .inl (cZ, 5200, .inl bm.1)), (ok, .inl (cK, 600, .inl km.1))]) [0, 1, 2] rfl) (hD.sub (ws' := [(om, .inr (3, [.int th, .int st, .int lo, .ref ob, .int bm.2.1, .int bm.2.2.1, .int bm.2.2.2.1, .int bm.2.2.2.2, .ref ok, .int km.2, .int qm.1, .int qm.2.1, .int qm.2.2.1, .int qm.2.2.2, .int bd, .int ((u_36.1, u_36.2.1, 0, u_36.2.2.2).1), .int ((u_36.1, u_36.2.1, 0, u_36.2.2.2).2.1), .int ((u_36.1, u_36.2.1, 0, u_36.2.2.2).2.2.1), .int ((u_36.1, u_36.2.1, 0, u_36.2.2.2).2.2.2)])), (ob, .inl (cZ, 5200, .inl bm.1)), (ok, .inl (cK, 600, .inl km.1))]) [0, 1, 2] (by decide) rfl) hS ls (lv_sub hl [3, 0] rfl)
            · refine lv_iconst (v := 1) hx hb dX3_skip_83 (by decide) ?_
              refine lv_goto (tgt := 88) hx hb dX3_skip_84 (by decide) ?_
              refine lv_istore_n (lv' := [(2, .int 1), (0, .ref om), (1, .int nn)]) hx hb dX3_skip_88 rfl hl (by decide) rfl (fun ls hl => ?_)
              refine lv_aload_n hx hb dX3_skip_89 rfl (lv_at hl 1 rfl) ?_
              refine lv_aload_n hx hb dX3_skip_90 rfl (lv_at hl 1 rfl) ?_
              refine va_get (D := (dC, dI)) (ci := 3) (v := .int ym.1) (C := RX3) (T := TX3) (N := 19) hx hb hts inGX3 hown hK hP 0 rfl rfl 15 (by decide) (hts _ wd452) (fun _ h9 => h9) rfl dX3_skip_91 ?_
              have hPc := hP.sub (ws' := [(om, .inr (3, [.int th, .int st, .int lo, .ref ob, .int bm.2.1, .int bm.2.2.1, .int bm.2.2.2.1, .int bm.2.2.2.2, .ref ok, .int km.2, .int qm.1, .int qm.2.1, .int qm.2.2.1, .int qm.2.2.2, .int bd, .int ym.1, .int ym.2.1, .int ym.2.2.1, .int ym.2.2.2])), (ob, .inl (cZ, 5200, .inl bm.1)), (ok, .inl (cK, 600, .inl km.1))]) [0, 1, 2] rfl
              have hKc := hK.sub (tys' := [(cZ, .boolean), (cK, .int)]) [0, 1] rfl
              refine vp_callSi (va_Run.run (va_runV (As := [.int ym.1]) (rest := []) ⟨hx, hb, hml, hown, hts⟩ (mX3_bitAt l dC dI cZ cK om ob ok st lo th bm km qm bd ym ym.1 (t_in (by first | exact hf.2.1 (Or.inl c_27) | exact hf.2.1 (Or.inr ⟨c_35, c_42⟩)))) (cwV 1 hts (gV wd569 wd570 wd21 wd30 wd571) rfl rfl rfl (by decide +kernel) ⟨Nat.le_of_ble_eq_true rfl, Nat.le_of_ble_eq_true rfl⟩) ⟨fb_ro, va_recv hKc hPc (ci := 3) (q0 := 0) rfl rfl, pre_ro hPc hKc hZ⟩ rfl rfl hl.1 rfl (lv_room (Nat.le_of_ble_eq_true rfl)) dX3_skip_94 ⟨Nat.le_of_ble_eq_true rfl, Nat.le_of_ble_eq_true rfl⟩)) (fun r_37 hw_38 => ?_)
              refine lv_istore_n (lv' := [(3, .int r_37), (2, .int 1), (0, .ref om), (1, .int nn)]) hx hb dX3_skip_97 rfl hl (by decide) rfl (fun ls hl => ?_)
              refine lv_aload_n hx hb dX3_skip_98 rfl (lv_at hl 2 rfl) ?_
              have hPc := hP.sub (ws' := [(om, .inr (3, [.int th, .int st, .int lo, .ref ob, .int bm.2.1, .int bm.2.2.1, .int bm.2.2.2.1, .int bm.2.2.2.2, .ref ok, .int km.2, .int qm.1, .int qm.2.1, .int qm.2.2.1, .int qm.2.2.2, .int bd, .int ym.1, .int ym.2.1, .int ym.2.2.1, .int ym.2.2.2])), (ob, .inl (cZ, 5200, .inl bm.1)), (ok, .inl (cK, 600, .inl km.1))]) [0, 1, 2] rfl
              have hKc := hK.sub (tys' := [(cZ, .boolean), (cK, .int)]) [0, 1] rfl
              have hDc := hD.sub (ws' := [(om, .inr (3, [.int th, .int st, .int lo, .ref ob, .int bm.2.1, .int bm.2.2.1, .int bm.2.2.2.1, .int bm.2.2.2.2, .ref ok, .int km.2, .int qm.1, .int qm.2.1, .int qm.2.2.1, .int qm.2.2.2, .int bd, .int ym.1, .int ym.2.1, .int ym.2.2.1, .int ym.2.2.2])), (ob, .inl (cZ, 5200, .inl bm.1)), (ok, .inl (cK, 600, .inl km.1))]) [0, 1, 2] (by decide) rfl
              have hFc := va_free (wc := [(om, .inr (3, [.int th, .int st, .int lo, .ref ob, .int bm.2.1, .int bm.2.2.1, .int bm.2.2.2.1, .int bm.2.2.2.2, .ref ok, .int km.2, .int qm.1, .int qm.2.1, .int qm.2.2.1, .int qm.2.2.2, .int bd, .int ym.1, .int ym.2.1, .int ym.2.2.1, .int ym.2.2.2])), (ob, .inl (cZ, 5200, .inl bm.1)), (ok, .inl (cK, 600, .inl km.1))]) hD hS hA [0, 1, 2] rfl
              refine va_callv (va_runV (As := []) (rest := []) ⟨hx, hb, hml, hown, hts⟩ (mX3_goOn l dC dI cZ cK om ob ok H.size st lo th bm km qm bd ym (by first | exact hf.2.1 (Or.inl c_27) | exact hf.2.1 (Or.inr ⟨c_35, c_42⟩))) (cwV 0 hts (gV wd572 wd573 wd22 wd30 wd574) rfl rfl rfl (by decide +kernel) ⟨Nat.le_of_ble_eq_true rfl, Nat.le_of_ble_eq_true rfl⟩) ⟨fb_rw, va_recv hKc hPc (ci := 3) (q0 := 0) rfl rfl, pre_rw hPc hKc hDc hZ⟩ rfl rfl hl.1 rfl (lv_room (Nat.le_of_ble_eq_true rfl)) dX3_skip_99 ⟨Nat.le_of_ble_eq_true rfl, Nat.le_of_ble_eq_true rfl⟩) hS (fun q _ h => hFc q h) hFc (fun u_40 t H1 locs ht hvm hw_39 hB hz1 hk1 hS => ?_)
              obtain ⟨hP1, hD1⟩ := hB
              rw [ht] at hP1
              obtain ⟨hP, hD⟩ := va_join (wr := []) (w1 := [(om, .inr (3, [.int th, .int st, .int lo, .ref ob, .int bm.2.1, .int bm.2.2.1, .int bm.2.2.2.1, .int bm.2.2.2.2, .ref ok, .int km.2, .int qm.1, .int qm.2.1, .int qm.2.2.1, .int qm.2.2.2, .int bd, .int u_40.1, .int u_40.2.1, .int u_40.2.2.1, .int u_40.2.2.2])), (ob, .inl (cZ, 5200, .inl bm.1)), (ok, .inl (cK, 600, .inl km.1))]) hP hD [0, 1, 2] [] rfl rfl (by decide) (by decide) hk1 hFc hP1 hD1
              generalize H1 = H at hP hS ⊢
              have hP : va_P (dC, dI) vwCl [(om, .inr (3, [.int th, .int st, .int lo, .ref ob, .int bm.2.1, .int bm.2.2.1, .int bm.2.2.2.1, .int bm.2.2.2.2, .ref ok, .int km.2, .int qm.1, .int qm.2.1, .int qm.2.2.1, .int qm.2.2.2, .int bd, .int u_40.1, .int u_40.2.1, .int u_40.2.2.1, .int u_40.2.2.2])), (ob, .inl (cZ, 5200, .inl bm.1)), (ok, .inl (cK, 600, .inl km.1))] H := hP
              have hD : va_D A [(om, .inr (3, [.int th, .int st, .int lo, .ref ob, .int bm.2.1, .int bm.2.2.1, .int bm.2.2.2.1, .int bm.2.2.2.2, .ref ok, .int km.2, .int qm.1, .int qm.2.1, .int qm.2.2.1, .int qm.2.2.2, .int bd, .int u_40.1, .int u_40.2.1, .int u_40.2.2.1, .int u_40.2.2.2])), (ob, .inl (cZ, 5200, .inl bm.1)), (ok, .inl (cK, 600, .inl km.1))] := hD
              refine lv_iload_n hx hb dX3_skip_102 rfl (lv_at hl 1 rfl) ?_
              refine lv_if_eq (tgt := 119) hx hb dX3_skip_103 (by decide) (fun c_103 => absurd c_103 (by decide)) (fun c_103 => ?_)
              refine lv_aload_n hx hb dX3_skip_106 rfl (lv_at hl 2 rfl) ?_
              refine lv_dup hx hb dX3_skip_107 rfl ?_
              refine va_get (D := (dC, dI)) (ci := 3) (v := .int u_40.2.1) (C := RX3) (T := TX3) (N := 19) hx hb hts inGX3 hown hK hP 0 rfl rfl 16 (by decide) (hts _ wd453) (fun _ h9 => h9) rfl dX3_skip_108 ?_
              refine lv_iconst (v := 1) hx hb dX3_skip_111 (by decide) ?_
              refine lv_iadd hx hb dX3_skip_112 ?_
              refine lv_topi (fun f_41 ef_41 => ?_)
              refine va_put (D := (dC, dI)) (ci := 3) (v := .int f_41) (ty := .int) (C := RX3) (T := TX3) (N := 19) hx hb hts inGX3 tyX3 tyX3_ok nmX3 hown hK hP hD hS 0 rfl rfl 16 (by decide) (hts _ wd453) (fun _ h9 => h9) rfl (by decide +kernel) rfl rfl (Nat.le_of_ble_eq_true rfl) dX3_skip_113 (fun H locs hP hD hS => ?_)
              have hP : va_P (dC, dI) vwCl [(om, .inr (3, [.int th, .int st, .int lo, .ref ob, .int bm.2.1, .int bm.2.2.1, .int bm.2.2.2.1, .int bm.2.2.2.2, .ref ok, .int km.2, .int qm.1, .int qm.2.1, .int qm.2.2.1, .int qm.2.2.2, .int bd, .int u_40.1, .int f_41, .int u_40.2.2.1, .int u_40.2.2.2])), (ob, .inl (cZ, 5200, .inl bm.1)), (ok, .inl (cK, 600, .inl km.1))] H := hP
              have hD : va_D A [(om, .inr (3, [.int th, .int st, .int lo, .ref ob, .int bm.2.1, .int bm.2.2.1, .int bm.2.2.2.1, .int bm.2.2.2.2, .ref ok, .int km.2, .int qm.1, .int qm.2.1, .int qm.2.2.1, .int qm.2.2.2, .int bd, .int u_40.1, .int f_41, .int u_40.2.2.1, .int u_40.2.2.2])), (ob, .inl (cZ, 5200, .inl bm.1)), (ok, .inl (cK, 600, .inl km.1))] := hD
              refine lv_goto (tgt := 189) hx hb dX3_skip_116 (by decide) ?_
              refine lv_goto (tgt := 20) hx hb dX3_skip_189 (by decide) ?_
              exact ih th bm km qm bd (u_40.1, f_41, u_40.2.2.1, u_40.2.2.2) nn (hf.2.2 _ _ (ssX3_skip_20_25 st lo th bm km qm bd ym nn c_27 c_50 c_57 c_71 c_80 _ hw_38 _ hw_39 _ ef_41)) ((plX3_skip_l20_24 st lo n th bm km qm bd ym nn c_27 c_50 c_57 c_71 c_80 _ hw_38 _ hw_39 _ ef_41).trans hz) _ _ (hP.sub (ws' := [(om, .inr (3, [.int th, .int st, .int lo, .ref ob, .int bm.2.1, .int bm.2.2.1, .int bm.2.2.2.1, .int bm.2.2.2.2, .ref ok, .int km.2, .int qm.1, .int qm.2.1, .int qm.2.2.1, .int qm.2.2.2, .int bd, .int ((u_40.1, f_41, u_40.2.2.1, u_40.2.2.2).1), .int ((u_40.1, f_41, u_40.2.2.1, u_40.2.2.2).2.1), .int ((u_40.1, f_41, u_40.2.2.1, u_40.2.2.2).2.2.1), .int ((u_40.1, f_41, u_40.2.2.1, u_40.2.2.2).2.2.2)])), (ob, .inl (cZ, 5200, .inl bm.1)), (ok, .inl (cK, 600, .inl km.1))]) [0, 1, 2] rfl) (hD.sub (ws' := [(om, .inr (3, [.int th, .int st, .int lo, .ref ob, .int bm.2.1, .int bm.2.2.1, .int bm.2.2.2.1, .int bm.2.2.2.2, .ref ok, .int km.2, .int qm.1, .int qm.2.1, .int qm.2.2.1, .int qm.2.2.2, .int bd, .int ((u_40.1, f_41, u_40.2.2.1, u_40.2.2.2).1), .int ((u_40.1, f_41, u_40.2.2.1, u_40.2.2.2).2.1), .int ((u_40.1, f_41, u_40.2.2.1, u_40.2.2.2).2.2.1), .int ((u_40.1, f_41, u_40.2.2.1, u_40.2.2.2).2.2.2)])), (ob, .inl (cZ, 5200, .inl bm.1)), (ok, .inl (cK, 600, .inl km.1))]) [0, 1, 2] (by decide) rfl) hS ls (lv_sub hl [2, 3] rfl)
          · refine lv_bipush (v := 7) hx hb dX3_skip_74 (by decide) ?_
            refine lv_goto (tgt := 80) hx hb dX3_skip_76 (by decide) ?_
            refine lv_icmp_ne (tgt := 87) hx hb dX3_skip_80 (by decide) (fun c_80 => ?_) (fun c_80 => ?_)
            · refine lv_iconst (v := 0) hx hb dX3_skip_87 (by decide) ?_
              refine lv_istore_n (lv' := [(2, .int 0), (0, .ref om), (1, .int nn)]) hx hb dX3_skip_88 rfl hl (by decide) rfl (fun ls hl => ?_)
              refine lv_aload_n hx hb dX3_skip_89 rfl (lv_at hl 1 rfl) ?_
              refine lv_aload_n hx hb dX3_skip_90 rfl (lv_at hl 1 rfl) ?_
              refine va_get (D := (dC, dI)) (ci := 3) (v := .int ym.1) (C := RX3) (T := TX3) (N := 19) hx hb hts inGX3 hown hK hP 0 rfl rfl 15 (by decide) (hts _ wd452) (fun _ h9 => h9) rfl dX3_skip_91 ?_
              have hPc := hP.sub (ws' := [(om, .inr (3, [.int th, .int st, .int lo, .ref ob, .int bm.2.1, .int bm.2.2.1, .int bm.2.2.2.1, .int bm.2.2.2.2, .ref ok, .int km.2, .int qm.1, .int qm.2.1, .int qm.2.2.1, .int qm.2.2.2, .int bd, .int ym.1, .int ym.2.1, .int ym.2.2.1, .int ym.2.2.2])), (ob, .inl (cZ, 5200, .inl bm.1)), (ok, .inl (cK, 600, .inl km.1))]) [0, 1, 2] rfl
              have hKc := hK.sub (tys' := [(cZ, .boolean), (cK, .int)]) [0, 1] rfl
              refine vp_callSi (va_Run.run (va_runV (As := [.int ym.1]) (rest := []) ⟨hx, hb, hml, hown, hts⟩ (mX3_bitAt l dC dI cZ cK om ob ok st lo th bm km qm bd ym ym.1 (t_in (by first | exact hf.2.1 (Or.inl c_27) | exact hf.2.1 (Or.inr ⟨c_35, c_42⟩)))) (cwV 1 hts (gV wd569 wd570 wd21 wd30 wd571) rfl rfl rfl (by decide +kernel) ⟨Nat.le_of_ble_eq_true rfl, Nat.le_of_ble_eq_true rfl⟩) ⟨fb_ro, va_recv hKc hPc (ci := 3) (q0 := 0) rfl rfl, pre_ro hPc hKc hZ⟩ rfl rfl hl.1 rfl (lv_room (Nat.le_of_ble_eq_true rfl)) dX3_skip_94 ⟨Nat.le_of_ble_eq_true rfl, Nat.le_of_ble_eq_true rfl⟩)) (fun r_42 hw_43 => ?_)
              refine lv_istore_n (lv' := [(3, .int r_42), (2, .int 0), (0, .ref om), (1, .int nn)]) hx hb dX3_skip_97 rfl hl (by decide) rfl (fun ls hl => ?_)
              refine lv_aload_n hx hb dX3_skip_98 rfl (lv_at hl 2 rfl) ?_
              have hPc := hP.sub (ws' := [(om, .inr (3, [.int th, .int st, .int lo, .ref ob, .int bm.2.1, .int bm.2.2.1, .int bm.2.2.2.1, .int bm.2.2.2.2, .ref ok, .int km.2, .int qm.1, .int qm.2.1, .int qm.2.2.1, .int qm.2.2.2, .int bd, .int ym.1, .int ym.2.1, .int ym.2.2.1, .int ym.2.2.2])), (ob, .inl (cZ, 5200, .inl bm.1)), (ok, .inl (cK, 600, .inl km.1))]) [0, 1, 2] rfl
              have hKc := hK.sub (tys' := [(cZ, .boolean), (cK, .int)]) [0, 1] rfl
              have hDc := hD.sub (ws' := [(om, .inr (3, [.int th, .int st, .int lo, .ref ob, .int bm.2.1, .int bm.2.2.1, .int bm.2.2.2.1, .int bm.2.2.2.2, .ref ok, .int km.2, .int qm.1, .int qm.2.1, .int qm.2.2.1, .int qm.2.2.2, .int bd, .int ym.1, .int ym.2.1, .int ym.2.2.1, .int ym.2.2.2])), (ob, .inl (cZ, 5200, .inl bm.1)), (ok, .inl (cK, 600, .inl km.1))]) [0, 1, 2] (by decide) rfl
              have hFc := va_free (wc := [(om, .inr (3, [.int th, .int st, .int lo, .ref ob, .int bm.2.1, .int bm.2.2.1, .int bm.2.2.2.1, .int bm.2.2.2.2, .ref ok, .int km.2, .int qm.1, .int qm.2.1, .int qm.2.2.1, .int qm.2.2.2, .int bd, .int ym.1, .int ym.2.1, .int ym.2.2.1, .int ym.2.2.2])), (ob, .inl (cZ, 5200, .inl bm.1)), (ok, .inl (cK, 600, .inl km.1))]) hD hS hA [0, 1, 2] rfl
              refine va_callv (va_runV (As := []) (rest := []) ⟨hx, hb, hml, hown, hts⟩ (mX3_goOn l dC dI cZ cK om ob ok H.size st lo th bm km qm bd ym (by first | exact hf.2.1 (Or.inl c_27) | exact hf.2.1 (Or.inr ⟨c_35, c_42⟩))) (cwV 0 hts (gV wd572 wd573 wd22 wd30 wd574) rfl rfl rfl (by decide +kernel) ⟨Nat.le_of_ble_eq_true rfl, Nat.le_of_ble_eq_true rfl⟩) ⟨fb_rw, va_recv hKc hPc (ci := 3) (q0 := 0) rfl rfl, pre_rw hPc hKc hDc hZ⟩ rfl rfl hl.1 rfl (lv_room (Nat.le_of_ble_eq_true rfl)) dX3_skip_99 ⟨Nat.le_of_ble_eq_true rfl, Nat.le_of_ble_eq_true rfl⟩) hS (fun q _ h => hFc q h) hFc (fun u_45 t H1 locs ht hvm hw_44 hB hz1 hk1 hS => ?_)
              obtain ⟨hP1, hD1⟩ := hB
              rw [ht] at hP1
              obtain ⟨hP, hD⟩ := va_join (wr := []) (w1 := [(om, .inr (3, [.int th, .int st, .int lo, .ref ob, .int bm.2.1, .int bm.2.2.1, .int bm.2.2.2.1, .int bm.2.2.2.2, .ref ok, .int km.2, .int qm.1, .int qm.2.1, .int qm.2.2.1, .int qm.2.2.2, .int bd, .int u_45.1, .int u_45.2.1, .int u_45.2.2.1, .int u_45.2.2.2])), (ob, .inl (cZ, 5200, .inl bm.1)), (ok, .inl (cK, 600, .inl km.1))]) hP hD [0, 1, 2] [] rfl rfl (by decide) (by decide) hk1 hFc hP1 hD1
              generalize H1 = H at hP hS ⊢
              have hP : va_P (dC, dI) vwCl [(om, .inr (3, [.int th, .int st, .int lo, .ref ob, .int bm.2.1, .int bm.2.2.1, .int bm.2.2.2.1, .int bm.2.2.2.2, .ref ok, .int km.2, .int qm.1, .int qm.2.1, .int qm.2.2.1, .int qm.2.2.2, .int bd, .int u_45.1, .int u_45.2.1, .int u_45.2.2.1, .int u_45.2.2.2])), (ob, .inl (cZ, 5200, .inl bm.1)), (ok, .inl (cK, 600, .inl km.1))] H := hP
              have hD : va_D A [(om, .inr (3, [.int th, .int st, .int lo, .ref ob, .int bm.2.1, .int bm.2.2.1, .int bm.2.2.2.1, .int bm.2.2.2.2, .ref ok, .int km.2, .int qm.1, .int qm.2.1, .int qm.2.2.1, .int qm.2.2.2, .int bd, .int u_45.1, .int u_45.2.1, .int u_45.2.2.1, .int u_45.2.2.2])), (ob, .inl (cZ, 5200, .inl bm.1)), (ok, .inl (cK, 600, .inl km.1))] := hD
              refine lv_iload_n hx hb dX3_skip_102 rfl (lv_at hl 1 rfl) ?_
              refine lv_if_eq (tgt := 119) hx hb dX3_skip_103 (by decide) (fun c_103 => ?_) (fun c_103 => absurd c_103 (by decide))
              obtain ⟨i_46, ei_46⟩ : ∃ y : Int32, y = nn + 1 := ⟨_, rfl⟩
              refine lv_iinc (v := i_46) (lv' := [(1, .int i_46), (3, .int r_42), (2, .int 0), (0, .ref om)]) hx hb dX3_skip_119 hl (k := 3) rfl (by rw [ei_46]; rfl) (by decide) rfl (fun ls hl => ?_)
              refine lv_aload_n hx hb dX3_skip_122 rfl (lv_at hl 3 rfl) ?_
              refine lv_iload_n hx hb dX3_skip_123 rfl (lv_at hl 1 rfl) ?_
              refine lv_iconst (v := 1) hx hb dX3_skip_124 (by decide) ?_
              refine lv_icmp_ne (tgt := 137) hx hb dX3_skip_125 (by decide) (fun c_125 => ?_) (fun c_125 => ?_)
              · refine lv_iconst (v := 0) hx hb dX3_skip_137 (by decide) ?_
                refine va_put (D := (dC, dI)) (ci := 3) (v := .int 0) (ty := .int) (C := RX3) (T := TX3) (N := 19) hx hb hts inGX3 tyX3 tyX3_ok nmX3 hown hK hP hD hS 0 rfl rfl 17 (by decide) (hts _ wd454) (fun _ h9 => h9) rfl (by decide +kernel) rfl rfl (Nat.le_of_ble_eq_true rfl) dX3_skip_138 (fun H locs hP hD hS => ?_)
                have hP : va_P (dC, dI) vwCl [(om, .inr (3, [.int th, .int st, .int lo, .ref ob, .int bm.2.1, .int bm.2.2.1, .int bm.2.2.2.1, .int bm.2.2.2.2, .ref ok, .int km.2, .int qm.1, .int qm.2.1, .int qm.2.2.1, .int qm.2.2.2, .int bd, .int u_45.1, .int u_45.2.1, .int 0, .int u_45.2.2.2])), (ob, .inl (cZ, 5200, .inl bm.1)), (ok, .inl (cK, 600, .inl km.1))] H := hP
                have hD : va_D A [(om, .inr (3, [.int th, .int st, .int lo, .ref ob, .int bm.2.1, .int bm.2.2.1, .int bm.2.2.2.1, .int bm.2.2.2.2, .ref ok, .int km.2, .int qm.1, .int qm.2.1, .int qm.2.2.1, .int qm.2.2.2, .int bd, .int u_45.1, .int u_45.2.1, .int 0, .int u_45.2.2.2])), (ob, .inl (cZ, 5200, .inl bm.1)), (ok, .inl (cK, 600, .inl km.1))] := hD
                refine lv_aload_n hx hb dX3_skip_141 rfl (lv_at hl 3 rfl) ?_
                refine va_get (D := (dC, dI)) (ci := 3) (v := .int st) (C := RX3) (T := TX3) (N := 19) hx hb hts inGX3 hown hK hP 0 rfl rfl 1 (by decide) (hts _ wd438) (fun _ h9 => h9) rfl dX3_skip_142 ?_
                refine lv_iconst (v := 1) hx hb dX3_skip_145 (by decide) ?_
                refine lv_icmp_le (tgt := 189) hx hb dX3_skip_146 (by decide) (fun c_146 => ?_) (fun c_146 => ?_)
                · refine lv_goto (tgt := 20) hx hb dX3_skip_189 (by decide) ?_
                  exact ih th bm km qm bd (u_45.1, u_45.2.1, 0, u_45.2.2.2) i_46 (hf.2.2 _ _ (ssX3_skip_20_26 st lo th bm km qm bd ym nn c_27 c_50 c_57 c_71 c_80 _ hw_43 _ hw_44 _ ei_46 c_125 c_146)) ((plX3_skip_l20_25 st lo n th bm km qm bd ym nn c_27 c_50 c_57 c_71 c_80 _ hw_43 _ hw_44 _ ei_46 c_125 c_146).trans hz) _ _ (hP.sub (ws' := [(om, .inr (3, [.int th, .int st, .int lo, .ref ob, .int bm.2.1, .int bm.2.2.1, .int bm.2.2.2.1, .int bm.2.2.2.2, .ref ok, .int km.2, .int qm.1, .int qm.2.1, .int qm.2.2.1, .int qm.2.2.2, .int bd, .int ((u_45.1, u_45.2.1, 0, u_45.2.2.2).1), .int ((u_45.1, u_45.2.1, 0, u_45.2.2.2).2.1), .int ((u_45.1, u_45.2.1, 0, u_45.2.2.2).2.2.1), .int ((u_45.1, u_45.2.1, 0, u_45.2.2.2).2.2.2)])), (ob, .inl (cZ, 5200, .inl bm.1)), (ok, .inl (cK, 600, .inl km.1))]) [0, 1, 2] rfl) (hD.sub (ws' := [(om, .inr (3, [.int th, .int st, .int lo, .ref ob, .int bm.2.1, .int bm.2.2.1, .int bm.2.2.2.1, .int bm.2.2.2.2, .ref ok, .int km.2, .int qm.1, .int qm.2.1, .int qm.2.2.1, .int qm.2.2.2, .int bd, .int ((u_45.1, u_45.2.1, 0, u_45.2.2.2).1), .int ((u_45.1, u_45.2.1, 0, u_45.2.2.2).2.1), .int ((u_45.1, u_45.2.1, 0, u_45.2.2.2).2.2.1), .int ((u_45.1, u_45.2.1, 0, u_45.2.2.2).2.2.2)])), (ob, .inl (cZ, 5200, .inl bm.1)), (ok, .inl (cK, 600, .inl km.1))]) [0, 1, 2] (by decide) rfl) hS ls (lv_sub hl [3, 0] rfl)
                · refine lv_aload_n hx hb dX3_skip_149 rfl (lv_at hl 3 rfl) ?_
                  refine va_get (D := (dC, dI)) (ci := 3) (v := .int 0) (C := RX3) (T := TX3) (N := 19) hx hb hts inGX3 hown hK hP 0 rfl rfl 17 (by decide) (hts _ wd454) (fun _ h9 => h9) rfl dX3_skip_150 ?_
                  refine lv_aload_n hx hb dX3_skip_153 rfl (lv_at hl 3 rfl) ?_
                  refine va_get (D := (dC, dI)) (ci := 3) (v := .int st) (C := RX3) (T := TX3) (N := 19) hx hb hts inGX3 hown hK hP 0 rfl rfl 1 (by decide) (hts _ wd438) (fun _ h9 => h9) rfl dX3_skip_154 ?_
                  refine lv_icmp_ne (tgt := 189) hx hb dX3_skip_157 (by decide) (fun c_157 => ?_) (fun c_157 => ?_)
                  · refine lv_goto (tgt := 20) hx hb dX3_skip_189 (by decide) ?_
                    exact ih th bm km qm bd (u_45.1, u_45.2.1, 0, u_45.2.2.2) i_46 (hf.2.2 _ _ (ssX3_skip_20_27 st lo th bm km qm bd ym nn c_27 c_50 c_57 c_71 c_80 _ hw_43 _ hw_44 _ ei_46 c_125 c_146 c_157)) ((plX3_skip_l20_26 st lo n th bm km qm bd ym nn c_27 c_50 c_57 c_71 c_80 _ hw_43 _ hw_44 _ ei_46 c_125 c_146 c_157).trans hz) _ _ (hP.sub (ws' := [(om, .inr (3, [.int th, .int st, .int lo, .ref ob, .int bm.2.1, .int bm.2.2.1, .int bm.2.2.2.1, .int bm.2.2.2.2, .ref ok, .int km.2, .int qm.1, .int qm.2.1, .int qm.2.2.1, .int qm.2.2.2, .int bd, .int ((u_45.1, u_45.2.1, 0, u_45.2.2.2).1), .int ((u_45.1, u_45.2.1, 0, u_45.2.2.2).2.1), .int ((u_45.1, u_45.2.1, 0, u_45.2.2.2).2.2.1), .int ((u_45.1, u_45.2.1, 0, u_45.2.2.2).2.2.2)])), (ob, .inl (cZ, 5200, .inl bm.1)), (ok, .inl (cK, 600, .inl km.1))]) [0, 1, 2] rfl) (hD.sub (ws' := [(om, .inr (3, [.int th, .int st, .int lo, .ref ob, .int bm.2.1, .int bm.2.2.1, .int bm.2.2.2.1, .int bm.2.2.2.2, .ref ok, .int km.2, .int qm.1, .int qm.2.1, .int qm.2.2.1, .int qm.2.2.2, .int bd, .int ((u_45.1, u_45.2.1, 0, u_45.2.2.2).1), .int ((u_45.1, u_45.2.1, 0, u_45.2.2.2).2.1), .int ((u_45.1, u_45.2.1, 0, u_45.2.2.2).2.2.1), .int ((u_45.1, u_45.2.1, 0, u_45.2.2.2).2.2.2)])), (ob, .inl (cZ, 5200, .inl bm.1)), (ok, .inl (cK, 600, .inl km.1))]) [0, 1, 2] (by decide) rfl) hS ls (lv_sub hl [3, 0] rfl)
                  · refine lv_aload_n hx hb dX3_skip_160 rfl (lv_at hl 3 rfl) ?_
                    refine va_get (D := (dC, dI)) (ci := 3) (v := .int u_45.1) (C := RX3) (T := TX3) (N := 19) hx hb hts inGX3 hown hK hP 0 rfl rfl 15 (by decide) (hts _ wd452) (fun _ h9 => h9) rfl dX3_skip_161 ?_
                    refine lv_bipush (v := 8) hx hb dX3_skip_164 (by decide) ?_
                    refine lv_irem hx hb dX3_skip_166 (by decide) ?_
                    refine lv_if_eq (tgt := 189) hx hb dX3_skip_167 (by decide) (fun c_167 => ?_) (fun c_167 => ?_)
                    · refine lv_goto (tgt := 20) hx hb dX3_skip_189 (by decide) ?_
                      exact ih th bm km qm bd (u_45.1, u_45.2.1, 0, u_45.2.2.2) i_46 (hf.2.2 _ _ (ssX3_skip_20_28 st lo th bm km qm bd ym nn c_27 c_50 c_57 c_71 c_80 _ hw_43 _ hw_44 _ ei_46 c_125 c_146 c_157 c_167)) ((plX3_skip_l20_27 st lo n th bm km qm bd ym nn c_27 c_50 c_57 c_71 c_80 _ hw_43 _ hw_44 _ ei_46 c_125 c_146 c_157 c_167).trans hz) _ _ (hP.sub (ws' := [(om, .inr (3, [.int th, .int st, .int lo, .ref ob, .int bm.2.1, .int bm.2.2.1, .int bm.2.2.2.1, .int bm.2.2.2.2, .ref ok, .int km.2, .int qm.1, .int qm.2.1, .int qm.2.2.1, .int qm.2.2.2, .int bd, .int ((u_45.1, u_45.2.1, 0, u_45.2.2.2).1), .int ((u_45.1, u_45.2.1, 0, u_45.2.2.2).2.1), .int ((u_45.1, u_45.2.1, 0, u_45.2.2.2).2.2.1), .int ((u_45.1, u_45.2.1, 0, u_45.2.2.2).2.2.2)])), (ob, .inl (cZ, 5200, .inl bm.1)), (ok, .inl (cK, 600, .inl km.1))]) [0, 1, 2] rfl) (hD.sub (ws' := [(om, .inr (3, [.int th, .int st, .int lo, .ref ob, .int bm.2.1, .int bm.2.2.1, .int bm.2.2.2.1, .int bm.2.2.2.2, .ref ok, .int km.2, .int qm.1, .int qm.2.1, .int qm.2.2.1, .int qm.2.2.2, .int bd, .int ((u_45.1, u_45.2.1, 0, u_45.2.2.2).1), .int ((u_45.1, u_45.2.1, 0, u_45.2.2.2).2.1), .int ((u_45.1, u_45.2.1, 0, u_45.2.2.2).2.2.1), .int ((u_45.1, u_45.2.1, 0, u_45.2.2.2).2.2.2)])), (ob, .inl (cZ, 5200, .inl bm.1)), (ok, .inl (cK, 600, .inl km.1))]) [0, 1, 2] (by decide) rfl) hS ls (lv_sub hl [3, 0] rfl)
                    · refine lv_aload_n hx hb dX3_skip_170 rfl (lv_at hl 3 rfl) ?_
                      refine lv_dup hx hb dX3_skip_171 rfl ?_
                      refine va_get (D := (dC, dI)) (ci := 3) (v := .int u_45.2.1) (C := RX3) (T := TX3) (N := 19) hx hb hts inGX3 hown hK hP 0 rfl rfl 16 (by decide) (hts _ wd453) (fun _ h9 => h9) rfl dX3_skip_172 ?_
                      refine lv_iconst (v := 1) hx hb dX3_skip_175 (by decide) ?_
                      refine lv_iadd hx hb dX3_skip_176 ?_
                      refine lv_topi (fun f_47 ef_47 => ?_)
                      refine va_put (D := (dC, dI)) (ci := 3) (v := .int f_47) (ty := .int) (C := RX3) (T := TX3) (N := 19) hx hb hts inGX3 tyX3 tyX3_ok nmX3 hown hK hP hD hS 0 rfl rfl 16 (by decide) (hts _ wd453) (fun _ h9 => h9) rfl (by decide +kernel) rfl rfl (Nat.le_of_ble_eq_true rfl) dX3_skip_177 (fun H locs hP hD hS => ?_)
                      have hP : va_P (dC, dI) vwCl [(om, .inr (3, [.int th, .int st, .int lo, .ref ob, .int bm.2.1, .int bm.2.2.1, .int bm.2.2.2.1, .int bm.2.2.2.2, .ref ok, .int km.2, .int qm.1, .int qm.2.1, .int qm.2.2.1, .int qm.2.2.2, .int bd, .int u_45.1, .int f_47, .int 0, .int u_45.2.2.2])), (ob, .inl (cZ, 5200, .inl bm.1)), (ok, .inl (cK, 600, .inl km.1))] H := hP
                      have hD : va_D A [(om, .inr (3, [.int th, .int st, .int lo, .ref ob, .int bm.2.1, .int bm.2.2.1, .int bm.2.2.2.1, .int bm.2.2.2.2, .ref ok, .int km.2, .int qm.1, .int qm.2.1, .int qm.2.2.1, .int qm.2.2.2, .int bd, .int u_45.1, .int f_47, .int 0, .int u_45.2.2.2])), (ob, .inl (cZ, 5200, .inl bm.1)), (ok, .inl (cK, 600, .inl km.1))] := hD
                      refine lv_aload_n hx hb dX3_skip_180 rfl (lv_at hl 3 rfl) ?_
                      have hPc := hP.sub (ws' := [(om, .inr (3, [.int th, .int st, .int lo, .ref ob, .int bm.2.1, .int bm.2.2.1, .int bm.2.2.2.1, .int bm.2.2.2.2, .ref ok, .int km.2, .int qm.1, .int qm.2.1, .int qm.2.2.1, .int qm.2.2.2, .int bd, .int u_45.1, .int f_47, .int 0, .int u_45.2.2.2])), (ob, .inl (cZ, 5200, .inl bm.1)), (ok, .inl (cK, 600, .inl km.1))]) [0, 1, 2] rfl
                      have hKc := hK.sub (tys' := [(cZ, .boolean), (cK, .int)]) [0, 1] rfl
                      have hDc := hD.sub (ws' := [(om, .inr (3, [.int th, .int st, .int lo, .ref ob, .int bm.2.1, .int bm.2.2.1, .int bm.2.2.2.1, .int bm.2.2.2.2, .ref ok, .int km.2, .int qm.1, .int qm.2.1, .int qm.2.2.1, .int qm.2.2.2, .int bd, .int u_45.1, .int f_47, .int 0, .int u_45.2.2.2])), (ob, .inl (cZ, 5200, .inl bm.1)), (ok, .inl (cK, 600, .inl km.1))]) [0, 1, 2] (by decide) rfl
                      have hFc := va_free (wc := [(om, .inr (3, [.int th, .int st, .int lo, .ref ob, .int bm.2.1, .int bm.2.2.1, .int bm.2.2.2.1, .int bm.2.2.2.2, .ref ok, .int km.2, .int qm.1, .int qm.2.1, .int qm.2.2.1, .int qm.2.2.2, .int bd, .int u_45.1, .int f_47, .int 0, .int u_45.2.2.2])), (ob, .inl (cZ, 5200, .inl bm.1)), (ok, .inl (cK, 600, .inl km.1))]) hD hS hA [0, 1, 2] rfl
                      refine va_callv (va_runV (As := []) (rest := []) ⟨hx, hb, hml, hown, hts⟩ (mX3_goOn l dC dI cZ cK om ob ok H.size st lo th bm km qm bd (u_45.1, f_47, 0, u_45.2.2.2) (sk_tT hf.1 (by first | exact hf.2.1 (Or.inl c_27) | exact hf.2.1 (Or.inr ⟨c_35, c_42⟩)) (by assumption) c_167)) (cwV 0 hts (gV wd572 wd573 wd22 wd30 wd574) rfl rfl rfl (by decide +kernel) ⟨Nat.le_of_ble_eq_true rfl, Nat.le_of_ble_eq_true rfl⟩) ⟨fb_rw, va_recv hKc hPc (ci := 3) (q0 := 0) rfl rfl, pre_rw hPc hKc hDc hZ⟩ rfl rfl hl.1 rfl (lv_room (Nat.le_of_ble_eq_true rfl)) dX3_skip_181 ⟨Nat.le_of_ble_eq_true rfl, Nat.le_of_ble_eq_true rfl⟩) hS (fun q _ h => hFc q h) hFc (fun u_49 t H1 locs ht hvm hw_48 hB hz1 hk1 hS => ?_)
                      obtain ⟨hP1, hD1⟩ := hB
                      rw [ht] at hP1
                      obtain ⟨hP, hD⟩ := va_join (wr := []) (w1 := [(om, .inr (3, [.int th, .int st, .int lo, .ref ob, .int bm.2.1, .int bm.2.2.1, .int bm.2.2.2.1, .int bm.2.2.2.2, .ref ok, .int km.2, .int qm.1, .int qm.2.1, .int qm.2.2.1, .int qm.2.2.2, .int bd, .int u_49.1, .int u_49.2.1, .int u_49.2.2.1, .int u_49.2.2.2])), (ob, .inl (cZ, 5200, .inl bm.1)), (ok, .inl (cK, 600, .inl km.1))]) hP hD [0, 1, 2] [] rfl rfl (by decide) (by decide) hk1 hFc hP1 hD1
                      generalize H1 = H at hP hS ⊢
                      have hP : va_P (dC, dI) vwCl [(om, .inr (3, [.int th, .int st, .int lo, .ref ob, .int bm.2.1, .int bm.2.2.1, .int bm.2.2.2.1, .int bm.2.2.2.2, .ref ok, .int km.2, .int qm.1, .int qm.2.1, .int qm.2.2.1, .int qm.2.2.2, .int bd, .int u_49.1, .int u_49.2.1, .int u_49.2.2.1, .int u_49.2.2.2])), (ob, .inl (cZ, 5200, .inl bm.1)), (ok, .inl (cK, 600, .inl km.1))] H := hP
                      have hD : va_D A [(om, .inr (3, [.int th, .int st, .int lo, .ref ob, .int bm.2.1, .int bm.2.2.1, .int bm.2.2.2.1, .int bm.2.2.2.2, .ref ok, .int km.2, .int qm.1, .int qm.2.1, .int qm.2.2.1, .int qm.2.2.2, .int bd, .int u_49.1, .int u_49.2.1, .int u_49.2.2.1, .int u_49.2.2.2])), (ob, .inl (cZ, 5200, .inl bm.1)), (ok, .inl (cK, 600, .inl km.1))] := hD
                      refine lv_aload_n hx hb dX3_skip_184 rfl (lv_at hl 3 rfl) ?_
                      refine lv_iconst (v := 0) hx hb dX3_skip_185 (by decide) ?_
                      refine va_put (D := (dC, dI)) (ci := 3) (v := .int 0) (ty := .int) (C := RX3) (T := TX3) (N := 19) hx hb hts inGX3 tyX3 tyX3_ok nmX3 hown hK hP hD hS 0 rfl rfl 17 (by decide) (hts _ wd454) (fun _ h9 => h9) rfl (by decide +kernel) rfl rfl (Nat.le_of_ble_eq_true rfl) dX3_skip_186 (fun H locs hP hD hS => ?_)
                      have hP : va_P (dC, dI) vwCl [(om, .inr (3, [.int th, .int st, .int lo, .ref ob, .int bm.2.1, .int bm.2.2.1, .int bm.2.2.2.1, .int bm.2.2.2.2, .ref ok, .int km.2, .int qm.1, .int qm.2.1, .int qm.2.2.1, .int qm.2.2.2, .int bd, .int u_49.1, .int u_49.2.1, .int 0, .int u_49.2.2.2])), (ob, .inl (cZ, 5200, .inl bm.1)), (ok, .inl (cK, 600, .inl km.1))] H := hP
                      have hD : va_D A [(om, .inr (3, [.int th, .int st, .int lo, .ref ob, .int bm.2.1, .int bm.2.2.1, .int bm.2.2.2.1, .int bm.2.2.2.2, .ref ok, .int km.2, .int qm.1, .int qm.2.1, .int qm.2.2.1, .int qm.2.2.2, .int bd, .int u_49.1, .int u_49.2.1, .int 0, .int u_49.2.2.2])), (ob, .inl (cZ, 5200, .inl bm.1)), (ok, .inl (cK, 600, .inl km.1))] := hD
                      refine lv_goto (tgt := 20) hx hb dX3_skip_189 (by decide) ?_
                      exact ih th bm km qm bd (u_49.1, u_49.2.1, 0, u_49.2.2.2) i_46 (hf.2.2 _ _ (ssX3_skip_20_29 st lo th bm km qm bd ym nn c_27 c_50 c_57 c_71 c_80 _ hw_43 _ hw_44 _ ei_46 c_125 c_146 c_157 c_167 _ ef_47 _ hw_48)) ((plX3_skip_l20_28 st lo n th bm km qm bd ym nn c_27 c_50 c_57 c_71 c_80 _ hw_43 _ hw_44 _ ei_46 c_125 c_146 c_157 c_167 _ ef_47 _ hw_48).trans hz) _ _ (hP.sub (ws' := [(om, .inr (3, [.int th, .int st, .int lo, .ref ob, .int bm.2.1, .int bm.2.2.1, .int bm.2.2.2.1, .int bm.2.2.2.2, .ref ok, .int km.2, .int qm.1, .int qm.2.1, .int qm.2.2.1, .int qm.2.2.2, .int bd, .int ((u_49.1, u_49.2.1, 0, u_49.2.2.2).1), .int ((u_49.1, u_49.2.1, 0, u_49.2.2.2).2.1), .int ((u_49.1, u_49.2.1, 0, u_49.2.2.2).2.2.1), .int ((u_49.1, u_49.2.1, 0, u_49.2.2.2).2.2.2)])), (ob, .inl (cZ, 5200, .inl bm.1)), (ok, .inl (cK, 600, .inl km.1))]) [0, 1, 2] rfl) (hD.sub (ws' := [(om, .inr (3, [.int th, .int st, .int lo, .ref ob, .int bm.2.1, .int bm.2.2.1, .int bm.2.2.2.1, .int bm.2.2.2.2, .ref ok, .int km.2, .int qm.1, .int qm.2.1, .int qm.2.2.1, .int qm.2.2.2, .int bd, .int ((u_49.1, u_49.2.1, 0, u_49.2.2.2).1), .int ((u_49.1, u_49.2.1, 0, u_49.2.2.2).2.1), .int ((u_49.1, u_49.2.1, 0, u_49.2.2.2).2.2.1), .int ((u_49.1, u_49.2.1, 0, u_49.2.2.2).2.2.2)])), (ob, .inl (cZ, 5200, .inl bm.1)), (ok, .inl (cK, 600, .inl km.1))]) [0, 1, 2] (by decide) rfl) hS ls (lv_sub hl [3, 0] rfl)
              · refine lv_aload_n hx hb dX3_skip_128 rfl (lv_at hl 3 rfl) ?_
                refine va_get (D := (dC, dI)) (ci := 3) (v := .int u_45.2.2.1) (C := RX3) (T := TX3) (N := 19) hx hb hts inGX3 hown hK hP 0 rfl rfl 17 (by decide) (hts _ wd454) (fun _ h9 => h9) rfl dX3_skip_129 ?_
                refine lv_iconst (v := 1) hx hb dX3_skip_132 (by decide) ?_
                refine lv_iadd hx hb dX3_skip_133 ?_
                refine lv_goto (tgt := 138) hx hb dX3_skip_134 (by decide) ?_
                refine lv_topi (fun f_50 ef_50 => ?_)
                refine va_put (D := (dC, dI)) (ci := 3) (v := .int f_50) (ty := .int) (C := RX3) (T := TX3) (N := 19) hx hb hts inGX3 tyX3 tyX3_ok nmX3 hown hK hP hD hS 0 rfl rfl 17 (by decide) (hts _ wd454) (fun _ h9 => h9) rfl (by decide +kernel) rfl rfl (Nat.le_of_ble_eq_true rfl) dX3_skip_138 (fun H locs hP hD hS => ?_)
                have hP : va_P (dC, dI) vwCl [(om, .inr (3, [.int th, .int st, .int lo, .ref ob, .int bm.2.1, .int bm.2.2.1, .int bm.2.2.2.1, .int bm.2.2.2.2, .ref ok, .int km.2, .int qm.1, .int qm.2.1, .int qm.2.2.1, .int qm.2.2.2, .int bd, .int u_45.1, .int u_45.2.1, .int f_50, .int u_45.2.2.2])), (ob, .inl (cZ, 5200, .inl bm.1)), (ok, .inl (cK, 600, .inl km.1))] H := hP
                have hD : va_D A [(om, .inr (3, [.int th, .int st, .int lo, .ref ob, .int bm.2.1, .int bm.2.2.1, .int bm.2.2.2.1, .int bm.2.2.2.2, .ref ok, .int km.2, .int qm.1, .int qm.2.1, .int qm.2.2.1, .int qm.2.2.2, .int bd, .int u_45.1, .int u_45.2.1, .int f_50, .int u_45.2.2.2])), (ob, .inl (cZ, 5200, .inl bm.1)), (ok, .inl (cK, 600, .inl km.1))] := hD
                refine lv_aload_n hx hb dX3_skip_141 rfl (lv_at hl 3 rfl) ?_
                refine va_get (D := (dC, dI)) (ci := 3) (v := .int st) (C := RX3) (T := TX3) (N := 19) hx hb hts inGX3 hown hK hP 0 rfl rfl 1 (by decide) (hts _ wd438) (fun _ h9 => h9) rfl dX3_skip_142 ?_
                refine lv_iconst (v := 1) hx hb dX3_skip_145 (by decide) ?_
                refine lv_icmp_le (tgt := 189) hx hb dX3_skip_146 (by decide) (fun c_146 => ?_) (fun c_146 => ?_)
                · refine lv_goto (tgt := 20) hx hb dX3_skip_189 (by decide) ?_
                  exact ih th bm km qm bd (u_45.1, u_45.2.1, f_50, u_45.2.2.2) i_46 (hf.2.2 _ _ (ssX3_skip_20_30 st lo th bm km qm bd ym nn c_27 c_50 c_57 c_71 c_80 _ hw_43 _ hw_44 _ ei_46 c_125 _ ef_50 c_146)) ((plX3_skip_l20_29 st lo n th bm km qm bd ym nn c_27 c_50 c_57 c_71 c_80 _ hw_43 _ hw_44 _ ei_46 c_125 _ ef_50 c_146).trans hz) _ _ (hP.sub (ws' := [(om, .inr (3, [.int th, .int st, .int lo, .ref ob, .int bm.2.1, .int bm.2.2.1, .int bm.2.2.2.1, .int bm.2.2.2.2, .ref ok, .int km.2, .int qm.1, .int qm.2.1, .int qm.2.2.1, .int qm.2.2.2, .int bd, .int ((u_45.1, u_45.2.1, f_50, u_45.2.2.2).1), .int ((u_45.1, u_45.2.1, f_50, u_45.2.2.2).2.1), .int ((u_45.1, u_45.2.1, f_50, u_45.2.2.2).2.2.1), .int ((u_45.1, u_45.2.1, f_50, u_45.2.2.2).2.2.2)])), (ob, .inl (cZ, 5200, .inl bm.1)), (ok, .inl (cK, 600, .inl km.1))]) [0, 1, 2] rfl) (hD.sub (ws' := [(om, .inr (3, [.int th, .int st, .int lo, .ref ob, .int bm.2.1, .int bm.2.2.1, .int bm.2.2.2.1, .int bm.2.2.2.2, .ref ok, .int km.2, .int qm.1, .int qm.2.1, .int qm.2.2.1, .int qm.2.2.2, .int bd, .int ((u_45.1, u_45.2.1, f_50, u_45.2.2.2).1), .int ((u_45.1, u_45.2.1, f_50, u_45.2.2.2).2.1), .int ((u_45.1, u_45.2.1, f_50, u_45.2.2.2).2.2.1), .int ((u_45.1, u_45.2.1, f_50, u_45.2.2.2).2.2.2)])), (ob, .inl (cZ, 5200, .inl bm.1)), (ok, .inl (cK, 600, .inl km.1))]) [0, 1, 2] (by decide) rfl) hS ls (lv_sub hl [3, 0] rfl)
                · refine lv_aload_n hx hb dX3_skip_149 rfl (lv_at hl 3 rfl) ?_
                  refine va_get (D := (dC, dI)) (ci := 3) (v := .int f_50) (C := RX3) (T := TX3) (N := 19) hx hb hts inGX3 hown hK hP 0 rfl rfl 17 (by decide) (hts _ wd454) (fun _ h9 => h9) rfl dX3_skip_150 ?_
                  refine lv_aload_n hx hb dX3_skip_153 rfl (lv_at hl 3 rfl) ?_
                  refine va_get (D := (dC, dI)) (ci := 3) (v := .int st) (C := RX3) (T := TX3) (N := 19) hx hb hts inGX3 hown hK hP 0 rfl rfl 1 (by decide) (hts _ wd438) (fun _ h9 => h9) rfl dX3_skip_154 ?_
                  refine lv_icmp_ne (tgt := 189) hx hb dX3_skip_157 (by decide) (fun c_157 => ?_) (fun c_157 => ?_)
                  · refine lv_goto (tgt := 20) hx hb dX3_skip_189 (by decide) ?_
                    exact ih th bm km qm bd (u_45.1, u_45.2.1, f_50, u_45.2.2.2) i_46 (hf.2.2 _ _ (ssX3_skip_20_31 st lo th bm km qm bd ym nn c_27 c_50 c_57 c_71 c_80 _ hw_43 _ hw_44 _ ei_46 c_125 _ ef_50 c_146 c_157)) ((plX3_skip_l20_30 st lo n th bm km qm bd ym nn c_27 c_50 c_57 c_71 c_80 _ hw_43 _ hw_44 _ ei_46 c_125 _ ef_50 c_146 c_157).trans hz) _ _ (hP.sub (ws' := [(om, .inr (3, [.int th, .int st, .int lo, .ref ob, .int bm.2.1, .int bm.2.2.1, .int bm.2.2.2.1, .int bm.2.2.2.2, .ref ok, .int km.2, .int qm.1, .int qm.2.1, .int qm.2.2.1, .int qm.2.2.2, .int bd, .int ((u_45.1, u_45.2.1, f_50, u_45.2.2.2).1), .int ((u_45.1, u_45.2.1, f_50, u_45.2.2.2).2.1), .int ((u_45.1, u_45.2.1, f_50, u_45.2.2.2).2.2.1), .int ((u_45.1, u_45.2.1, f_50, u_45.2.2.2).2.2.2)])), (ob, .inl (cZ, 5200, .inl bm.1)), (ok, .inl (cK, 600, .inl km.1))]) [0, 1, 2] rfl) (hD.sub (ws' := [(om, .inr (3, [.int th, .int st, .int lo, .ref ob, .int bm.2.1, .int bm.2.2.1, .int bm.2.2.2.1, .int bm.2.2.2.2, .ref ok, .int km.2, .int qm.1, .int qm.2.1, .int qm.2.2.1, .int qm.2.2.2, .int bd, .int ((u_45.1, u_45.2.1, f_50, u_45.2.2.2).1), .int ((u_45.1, u_45.2.1, f_50, u_45.2.2.2).2.1), .int ((u_45.1, u_45.2.1, f_50, u_45.2.2.2).2.2.1), .int ((u_45.1, u_45.2.1, f_50, u_45.2.2.2).2.2.2)])), (ob, .inl (cZ, 5200, .inl bm.1)), (ok, .inl (cK, 600, .inl km.1))]) [0, 1, 2] (by decide) rfl) hS ls (lv_sub hl [3, 0] rfl)
                  · refine lv_aload_n hx hb dX3_skip_160 rfl (lv_at hl 3 rfl) ?_
                    refine va_get (D := (dC, dI)) (ci := 3) (v := .int u_45.1) (C := RX3) (T := TX3) (N := 19) hx hb hts inGX3 hown hK hP 0 rfl rfl 15 (by decide) (hts _ wd452) (fun _ h9 => h9) rfl dX3_skip_161 ?_
                    refine lv_bipush (v := 8) hx hb dX3_skip_164 (by decide) ?_
                    refine lv_irem hx hb dX3_skip_166 (by decide) ?_
                    refine lv_if_eq (tgt := 189) hx hb dX3_skip_167 (by decide) (fun c_167 => ?_) (fun c_167 => ?_)
                    · refine lv_goto (tgt := 20) hx hb dX3_skip_189 (by decide) ?_
                      exact ih th bm km qm bd (u_45.1, u_45.2.1, f_50, u_45.2.2.2) i_46 (hf.2.2 _ _ (ssX3_skip_20_32 st lo th bm km qm bd ym nn c_27 c_50 c_57 c_71 c_80 _ hw_43 _ hw_44 _ ei_46 c_125 _ ef_50 c_146 c_157 c_167)) ((plX3_skip_l20_31 st lo n th bm km qm bd ym nn c_27 c_50 c_57 c_71 c_80 _ hw_43 _ hw_44 _ ei_46 c_125 _ ef_50 c_146 c_157 c_167).trans hz) _ _ (hP.sub (ws' := [(om, .inr (3, [.int th, .int st, .int lo, .ref ob, .int bm.2.1, .int bm.2.2.1, .int bm.2.2.2.1, .int bm.2.2.2.2, .ref ok, .int km.2, .int qm.1, .int qm.2.1, .int qm.2.2.1, .int qm.2.2.2, .int bd, .int ((u_45.1, u_45.2.1, f_50, u_45.2.2.2).1), .int ((u_45.1, u_45.2.1, f_50, u_45.2.2.2).2.1), .int ((u_45.1, u_45.2.1, f_50, u_45.2.2.2).2.2.1), .int ((u_45.1, u_45.2.1, f_50, u_45.2.2.2).2.2.2)])), (ob, .inl (cZ, 5200, .inl bm.1)), (ok, .inl (cK, 600, .inl km.1))]) [0, 1, 2] rfl) (hD.sub (ws' := [(om, .inr (3, [.int th, .int st, .int lo, .ref ob, .int bm.2.1, .int bm.2.2.1, .int bm.2.2.2.1, .int bm.2.2.2.2, .ref ok, .int km.2, .int qm.1, .int qm.2.1, .int qm.2.2.1, .int qm.2.2.2, .int bd, .int ((u_45.1, u_45.2.1, f_50, u_45.2.2.2).1), .int ((u_45.1, u_45.2.1, f_50, u_45.2.2.2).2.1), .int ((u_45.1, u_45.2.1, f_50, u_45.2.2.2).2.2.1), .int ((u_45.1, u_45.2.1, f_50, u_45.2.2.2).2.2.2)])), (ob, .inl (cZ, 5200, .inl bm.1)), (ok, .inl (cK, 600, .inl km.1))]) [0, 1, 2] (by decide) rfl) hS ls (lv_sub hl [3, 0] rfl)
                    · refine lv_aload_n hx hb dX3_skip_170 rfl (lv_at hl 3 rfl) ?_
                      refine lv_dup hx hb dX3_skip_171 rfl ?_
                      refine va_get (D := (dC, dI)) (ci := 3) (v := .int u_45.2.1) (C := RX3) (T := TX3) (N := 19) hx hb hts inGX3 hown hK hP 0 rfl rfl 16 (by decide) (hts _ wd453) (fun _ h9 => h9) rfl dX3_skip_172 ?_
                      refine lv_iconst (v := 1) hx hb dX3_skip_175 (by decide) ?_
                      refine lv_iadd hx hb dX3_skip_176 ?_
                      refine lv_topi (fun f_51 ef_51 => ?_)
                      refine va_put (D := (dC, dI)) (ci := 3) (v := .int f_51) (ty := .int) (C := RX3) (T := TX3) (N := 19) hx hb hts inGX3 tyX3 tyX3_ok nmX3 hown hK hP hD hS 0 rfl rfl 16 (by decide) (hts _ wd453) (fun _ h9 => h9) rfl (by decide +kernel) rfl rfl (Nat.le_of_ble_eq_true rfl) dX3_skip_177 (fun H locs hP hD hS => ?_)
                      have hP : va_P (dC, dI) vwCl [(om, .inr (3, [.int th, .int st, .int lo, .ref ob, .int bm.2.1, .int bm.2.2.1, .int bm.2.2.2.1, .int bm.2.2.2.2, .ref ok, .int km.2, .int qm.1, .int qm.2.1, .int qm.2.2.1, .int qm.2.2.2, .int bd, .int u_45.1, .int f_51, .int f_50, .int u_45.2.2.2])), (ob, .inl (cZ, 5200, .inl bm.1)), (ok, .inl (cK, 600, .inl km.1))] H := hP
                      have hD : va_D A [(om, .inr (3, [.int th, .int st, .int lo, .ref ob, .int bm.2.1, .int bm.2.2.1, .int bm.2.2.2.1, .int bm.2.2.2.2, .ref ok, .int km.2, .int qm.1, .int qm.2.1, .int qm.2.2.1, .int qm.2.2.2, .int bd, .int u_45.1, .int f_51, .int f_50, .int u_45.2.2.2])), (ob, .inl (cZ, 5200, .inl bm.1)), (ok, .inl (cK, 600, .inl km.1))] := hD
                      refine lv_aload_n hx hb dX3_skip_180 rfl (lv_at hl 3 rfl) ?_
                      have hPc := hP.sub (ws' := [(om, .inr (3, [.int th, .int st, .int lo, .ref ob, .int bm.2.1, .int bm.2.2.1, .int bm.2.2.2.1, .int bm.2.2.2.2, .ref ok, .int km.2, .int qm.1, .int qm.2.1, .int qm.2.2.1, .int qm.2.2.2, .int bd, .int u_45.1, .int f_51, .int f_50, .int u_45.2.2.2])), (ob, .inl (cZ, 5200, .inl bm.1)), (ok, .inl (cK, 600, .inl km.1))]) [0, 1, 2] rfl
                      have hKc := hK.sub (tys' := [(cZ, .boolean), (cK, .int)]) [0, 1] rfl
                      have hDc := hD.sub (ws' := [(om, .inr (3, [.int th, .int st, .int lo, .ref ob, .int bm.2.1, .int bm.2.2.1, .int bm.2.2.2.1, .int bm.2.2.2.2, .ref ok, .int km.2, .int qm.1, .int qm.2.1, .int qm.2.2.1, .int qm.2.2.2, .int bd, .int u_45.1, .int f_51, .int f_50, .int u_45.2.2.2])), (ob, .inl (cZ, 5200, .inl bm.1)), (ok, .inl (cK, 600, .inl km.1))]) [0, 1, 2] (by decide) rfl
                      have hFc := va_free (wc := [(om, .inr (3, [.int th, .int st, .int lo, .ref ob, .int bm.2.1, .int bm.2.2.1, .int bm.2.2.2.1, .int bm.2.2.2.2, .ref ok, .int km.2, .int qm.1, .int qm.2.1, .int qm.2.2.1, .int qm.2.2.2, .int bd, .int u_45.1, .int f_51, .int f_50, .int u_45.2.2.2])), (ob, .inl (cZ, 5200, .inl bm.1)), (ok, .inl (cK, 600, .inl km.1))]) hD hS hA [0, 1, 2] rfl
                      refine va_callv (va_runV (As := []) (rest := []) ⟨hx, hb, hml, hown, hts⟩ (mX3_goOn l dC dI cZ cK om ob ok H.size st lo th bm km qm bd (u_45.1, f_51, f_50, u_45.2.2.2) (sk_tT hf.1 (by first | exact hf.2.1 (Or.inl c_27) | exact hf.2.1 (Or.inr ⟨c_35, c_42⟩)) (by assumption) c_167)) (cwV 0 hts (gV wd572 wd573 wd22 wd30 wd574) rfl rfl rfl (by decide +kernel) ⟨Nat.le_of_ble_eq_true rfl, Nat.le_of_ble_eq_true rfl⟩) ⟨fb_rw, va_recv hKc hPc (ci := 3) (q0 := 0) rfl rfl, pre_rw hPc hKc hDc hZ⟩ rfl rfl hl.1 rfl (lv_room (Nat.le_of_ble_eq_true rfl)) dX3_skip_181 ⟨Nat.le_of_ble_eq_true rfl, Nat.le_of_ble_eq_true rfl⟩) hS (fun q _ h => hFc q h) hFc (fun u_53 t H1 locs ht hvm hw_52 hB hz1 hk1 hS => ?_)
                      obtain ⟨hP1, hD1⟩ := hB
                      rw [ht] at hP1
                      obtain ⟨hP, hD⟩ := va_join (wr := []) (w1 := [(om, .inr (3, [.int th, .int st, .int lo, .ref ob, .int bm.2.1, .int bm.2.2.1, .int bm.2.2.2.1, .int bm.2.2.2.2, .ref ok, .int km.2, .int qm.1, .int qm.2.1, .int qm.2.2.1, .int qm.2.2.2, .int bd, .int u_53.1, .int u_53.2.1, .int u_53.2.2.1, .int u_53.2.2.2])), (ob, .inl (cZ, 5200, .inl bm.1)), (ok, .inl (cK, 600, .inl km.1))]) hP hD [0, 1, 2] [] rfl rfl (by decide) (by decide) hk1 hFc hP1 hD1
                      generalize H1 = H at hP hS ⊢
                      have hP : va_P (dC, dI) vwCl [(om, .inr (3, [.int th, .int st, .int lo, .ref ob, .int bm.2.1, .int bm.2.2.1, .int bm.2.2.2.1, .int bm.2.2.2.2, .ref ok, .int km.2, .int qm.1, .int qm.2.1, .int qm.2.2.1, .int qm.2.2.2, .int bd, .int u_53.1, .int u_53.2.1, .int u_53.2.2.1, .int u_53.2.2.2])), (ob, .inl (cZ, 5200, .inl bm.1)), (ok, .inl (cK, 600, .inl km.1))] H := hP
                      have hD : va_D A [(om, .inr (3, [.int th, .int st, .int lo, .ref ob, .int bm.2.1, .int bm.2.2.1, .int bm.2.2.2.1, .int bm.2.2.2.2, .ref ok, .int km.2, .int qm.1, .int qm.2.1, .int qm.2.2.1, .int qm.2.2.2, .int bd, .int u_53.1, .int u_53.2.1, .int u_53.2.2.1, .int u_53.2.2.2])), (ob, .inl (cZ, 5200, .inl bm.1)), (ok, .inl (cK, 600, .inl km.1))] := hD
                      refine lv_aload_n hx hb dX3_skip_184 rfl (lv_at hl 3 rfl) ?_
                      refine lv_iconst (v := 0) hx hb dX3_skip_185 (by decide) ?_
                      refine va_put (D := (dC, dI)) (ci := 3) (v := .int 0) (ty := .int) (C := RX3) (T := TX3) (N := 19) hx hb hts inGX3 tyX3 tyX3_ok nmX3 hown hK hP hD hS 0 rfl rfl 17 (by decide) (hts _ wd454) (fun _ h9 => h9) rfl (by decide +kernel) rfl rfl (Nat.le_of_ble_eq_true rfl) dX3_skip_186 (fun H locs hP hD hS => ?_)
                      have hP : va_P (dC, dI) vwCl [(om, .inr (3, [.int th, .int st, .int lo, .ref ob, .int bm.2.1, .int bm.2.2.1, .int bm.2.2.2.1, .int bm.2.2.2.2, .ref ok, .int km.2, .int qm.1, .int qm.2.1, .int qm.2.2.1, .int qm.2.2.2, .int bd, .int u_53.1, .int u_53.2.1, .int 0, .int u_53.2.2.2])), (ob, .inl (cZ, 5200, .inl bm.1)), (ok, .inl (cK, 600, .inl km.1))] H := hP
                      have hD : va_D A [(om, .inr (3, [.int th, .int st, .int lo, .ref ob, .int bm.2.1, .int bm.2.2.1, .int bm.2.2.2.1, .int bm.2.2.2.2, .ref ok, .int km.2, .int qm.1, .int qm.2.1, .int qm.2.2.1, .int qm.2.2.2, .int bd, .int u_53.1, .int u_53.2.1, .int 0, .int u_53.2.2.2])), (ob, .inl (cZ, 5200, .inl bm.1)), (ok, .inl (cK, 600, .inl km.1))] := hD
                      refine lv_goto (tgt := 20) hx hb dX3_skip_189 (by decide) ?_
                      exact ih th bm km qm bd (u_53.1, u_53.2.1, 0, u_53.2.2.2) i_46 (hf.2.2 _ _ (ssX3_skip_20_33 st lo th bm km qm bd ym nn c_27 c_50 c_57 c_71 c_80 _ hw_43 _ hw_44 _ ei_46 c_125 _ ef_50 c_146 c_157 c_167 _ ef_51 _ hw_52)) ((plX3_skip_l20_32 st lo n th bm km qm bd ym nn c_27 c_50 c_57 c_71 c_80 _ hw_43 _ hw_44 _ ei_46 c_125 _ ef_50 c_146 c_157 c_167 _ ef_51 _ hw_52).trans hz) _ _ (hP.sub (ws' := [(om, .inr (3, [.int th, .int st, .int lo, .ref ob, .int bm.2.1, .int bm.2.2.1, .int bm.2.2.2.1, .int bm.2.2.2.2, .ref ok, .int km.2, .int qm.1, .int qm.2.1, .int qm.2.2.1, .int qm.2.2.2, .int bd, .int ((u_53.1, u_53.2.1, 0, u_53.2.2.2).1), .int ((u_53.1, u_53.2.1, 0, u_53.2.2.2).2.1), .int ((u_53.1, u_53.2.1, 0, u_53.2.2.2).2.2.1), .int ((u_53.1, u_53.2.1, 0, u_53.2.2.2).2.2.2)])), (ob, .inl (cZ, 5200, .inl bm.1)), (ok, .inl (cK, 600, .inl km.1))]) [0, 1, 2] rfl) (hD.sub (ws' := [(om, .inr (3, [.int th, .int st, .int lo, .ref ob, .int bm.2.1, .int bm.2.2.1, .int bm.2.2.2.1, .int bm.2.2.2.2, .ref ok, .int km.2, .int qm.1, .int qm.2.1, .int qm.2.2.1, .int qm.2.2.2, .int bd, .int ((u_53.1, u_53.2.1, 0, u_53.2.2.2).1), .int ((u_53.1, u_53.2.1, 0, u_53.2.2.2).2.1), .int ((u_53.1, u_53.2.1, 0, u_53.2.2.2).2.2.1), .int ((u_53.1, u_53.2.1, 0, u_53.2.2.2).2.2.2)])), (ob, .inl (cZ, 5200, .inl bm.1)), (ok, .inl (cK, 600, .inl km.1))]) [0, 1, 2] (by decide) rfl) hS ls (lv_sub hl [3, 0] rfl)
            · refine lv_iconst (v := 1) hx hb dX3_skip_83 (by decide) ?_
              refine lv_goto (tgt := 88) hx hb dX3_skip_84 (by decide) ?_
              refine lv_istore_n (lv' := [(2, .int 1), (0, .ref om), (1, .int nn)]) hx hb dX3_skip_88 rfl hl (by decide) rfl (fun ls hl => ?_)
              refine lv_aload_n hx hb dX3_skip_89 rfl (lv_at hl 1 rfl) ?_
              refine lv_aload_n hx hb dX3_skip_90 rfl (lv_at hl 1 rfl) ?_
              refine va_get (D := (dC, dI)) (ci := 3) (v := .int ym.1) (C := RX3) (T := TX3) (N := 19) hx hb hts inGX3 hown hK hP 0 rfl rfl 15 (by decide) (hts _ wd452) (fun _ h9 => h9) rfl dX3_skip_91 ?_
              have hPc := hP.sub (ws' := [(om, .inr (3, [.int th, .int st, .int lo, .ref ob, .int bm.2.1, .int bm.2.2.1, .int bm.2.2.2.1, .int bm.2.2.2.2, .ref ok, .int km.2, .int qm.1, .int qm.2.1, .int qm.2.2.1, .int qm.2.2.2, .int bd, .int ym.1, .int ym.2.1, .int ym.2.2.1, .int ym.2.2.2])), (ob, .inl (cZ, 5200, .inl bm.1)), (ok, .inl (cK, 600, .inl km.1))]) [0, 1, 2] rfl
              have hKc := hK.sub (tys' := [(cZ, .boolean), (cK, .int)]) [0, 1] rfl
              refine vp_callSi (va_Run.run (va_runV (As := [.int ym.1]) (rest := []) ⟨hx, hb, hml, hown, hts⟩ (mX3_bitAt l dC dI cZ cK om ob ok st lo th bm km qm bd ym ym.1 (t_in (by first | exact hf.2.1 (Or.inl c_27) | exact hf.2.1 (Or.inr ⟨c_35, c_42⟩)))) (cwV 1 hts (gV wd569 wd570 wd21 wd30 wd571) rfl rfl rfl (by decide +kernel) ⟨Nat.le_of_ble_eq_true rfl, Nat.le_of_ble_eq_true rfl⟩) ⟨fb_ro, va_recv hKc hPc (ci := 3) (q0 := 0) rfl rfl, pre_ro hPc hKc hZ⟩ rfl rfl hl.1 rfl (lv_room (Nat.le_of_ble_eq_true rfl)) dX3_skip_94 ⟨Nat.le_of_ble_eq_true rfl, Nat.le_of_ble_eq_true rfl⟩)) (fun r_54 hw_55 => ?_)
              refine lv_istore_n (lv' := [(3, .int r_54), (2, .int 1), (0, .ref om), (1, .int nn)]) hx hb dX3_skip_97 rfl hl (by decide) rfl (fun ls hl => ?_)
              refine lv_aload_n hx hb dX3_skip_98 rfl (lv_at hl 2 rfl) ?_
              have hPc := hP.sub (ws' := [(om, .inr (3, [.int th, .int st, .int lo, .ref ob, .int bm.2.1, .int bm.2.2.1, .int bm.2.2.2.1, .int bm.2.2.2.2, .ref ok, .int km.2, .int qm.1, .int qm.2.1, .int qm.2.2.1, .int qm.2.2.2, .int bd, .int ym.1, .int ym.2.1, .int ym.2.2.1, .int ym.2.2.2])), (ob, .inl (cZ, 5200, .inl bm.1)), (ok, .inl (cK, 600, .inl km.1))]) [0, 1, 2] rfl
              have hKc := hK.sub (tys' := [(cZ, .boolean), (cK, .int)]) [0, 1] rfl
              have hDc := hD.sub (ws' := [(om, .inr (3, [.int th, .int st, .int lo, .ref ob, .int bm.2.1, .int bm.2.2.1, .int bm.2.2.2.1, .int bm.2.2.2.2, .ref ok, .int km.2, .int qm.1, .int qm.2.1, .int qm.2.2.1, .int qm.2.2.2, .int bd, .int ym.1, .int ym.2.1, .int ym.2.2.1, .int ym.2.2.2])), (ob, .inl (cZ, 5200, .inl bm.1)), (ok, .inl (cK, 600, .inl km.1))]) [0, 1, 2] (by decide) rfl
              have hFc := va_free (wc := [(om, .inr (3, [.int th, .int st, .int lo, .ref ob, .int bm.2.1, .int bm.2.2.1, .int bm.2.2.2.1, .int bm.2.2.2.2, .ref ok, .int km.2, .int qm.1, .int qm.2.1, .int qm.2.2.1, .int qm.2.2.2, .int bd, .int ym.1, .int ym.2.1, .int ym.2.2.1, .int ym.2.2.2])), (ob, .inl (cZ, 5200, .inl bm.1)), (ok, .inl (cK, 600, .inl km.1))]) hD hS hA [0, 1, 2] rfl
              refine va_callv (va_runV (As := []) (rest := []) ⟨hx, hb, hml, hown, hts⟩ (mX3_goOn l dC dI cZ cK om ob ok H.size st lo th bm km qm bd ym (by first | exact hf.2.1 (Or.inl c_27) | exact hf.2.1 (Or.inr ⟨c_35, c_42⟩))) (cwV 0 hts (gV wd572 wd573 wd22 wd30 wd574) rfl rfl rfl (by decide +kernel) ⟨Nat.le_of_ble_eq_true rfl, Nat.le_of_ble_eq_true rfl⟩) ⟨fb_rw, va_recv hKc hPc (ci := 3) (q0 := 0) rfl rfl, pre_rw hPc hKc hDc hZ⟩ rfl rfl hl.1 rfl (lv_room (Nat.le_of_ble_eq_true rfl)) dX3_skip_99 ⟨Nat.le_of_ble_eq_true rfl, Nat.le_of_ble_eq_true rfl⟩) hS (fun q _ h => hFc q h) hFc (fun u_57 t H1 locs ht hvm hw_56 hB hz1 hk1 hS => ?_)
              obtain ⟨hP1, hD1⟩ := hB
              rw [ht] at hP1
              obtain ⟨hP, hD⟩ := va_join (wr := []) (w1 := [(om, .inr (3, [.int th, .int st, .int lo, .ref ob, .int bm.2.1, .int bm.2.2.1, .int bm.2.2.2.1, .int bm.2.2.2.2, .ref ok, .int km.2, .int qm.1, .int qm.2.1, .int qm.2.2.1, .int qm.2.2.2, .int bd, .int u_57.1, .int u_57.2.1, .int u_57.2.2.1, .int u_57.2.2.2])), (ob, .inl (cZ, 5200, .inl bm.1)), (ok, .inl (cK, 600, .inl km.1))]) hP hD [0, 1, 2] [] rfl rfl (by decide) (by decide) hk1 hFc hP1 hD1
              generalize H1 = H at hP hS ⊢
              have hP : va_P (dC, dI) vwCl [(om, .inr (3, [.int th, .int st, .int lo, .ref ob, .int bm.2.1, .int bm.2.2.1, .int bm.2.2.2.1, .int bm.2.2.2.2, .ref ok, .int km.2, .int qm.1, .int qm.2.1, .int qm.2.2.1, .int qm.2.2.2, .int bd, .int u_57.1, .int u_57.2.1, .int u_57.2.2.1, .int u_57.2.2.2])), (ob, .inl (cZ, 5200, .inl bm.1)), (ok, .inl (cK, 600, .inl km.1))] H := hP
              have hD : va_D A [(om, .inr (3, [.int th, .int st, .int lo, .ref ob, .int bm.2.1, .int bm.2.2.1, .int bm.2.2.2.1, .int bm.2.2.2.2, .ref ok, .int km.2, .int qm.1, .int qm.2.1, .int qm.2.2.1, .int qm.2.2.2, .int bd, .int u_57.1, .int u_57.2.1, .int u_57.2.2.1, .int u_57.2.2.2])), (ob, .inl (cZ, 5200, .inl bm.1)), (ok, .inl (cK, 600, .inl km.1))] := hD
              refine lv_iload_n hx hb dX3_skip_102 rfl (lv_at hl 1 rfl) ?_
              refine lv_if_eq (tgt := 119) hx hb dX3_skip_103 (by decide) (fun c_103 => absurd c_103 (by decide)) (fun c_103 => ?_)
              refine lv_aload_n hx hb dX3_skip_106 rfl (lv_at hl 2 rfl) ?_
              refine lv_dup hx hb dX3_skip_107 rfl ?_
              refine va_get (D := (dC, dI)) (ci := 3) (v := .int u_57.2.1) (C := RX3) (T := TX3) (N := 19) hx hb hts inGX3 hown hK hP 0 rfl rfl 16 (by decide) (hts _ wd453) (fun _ h9 => h9) rfl dX3_skip_108 ?_
              refine lv_iconst (v := 1) hx hb dX3_skip_111 (by decide) ?_
              refine lv_iadd hx hb dX3_skip_112 ?_
              refine lv_topi (fun f_58 ef_58 => ?_)
              refine va_put (D := (dC, dI)) (ci := 3) (v := .int f_58) (ty := .int) (C := RX3) (T := TX3) (N := 19) hx hb hts inGX3 tyX3 tyX3_ok nmX3 hown hK hP hD hS 0 rfl rfl 16 (by decide) (hts _ wd453) (fun _ h9 => h9) rfl (by decide +kernel) rfl rfl (Nat.le_of_ble_eq_true rfl) dX3_skip_113 (fun H locs hP hD hS => ?_)
              have hP : va_P (dC, dI) vwCl [(om, .inr (3, [.int th, .int st, .int lo, .ref ob, .int bm.2.1, .int bm.2.2.1, .int bm.2.2.2.1, .int bm.2.2.2.2, .ref ok, .int km.2, .int qm.1, .int qm.2.1, .int qm.2.2.1, .int qm.2.2.2, .int bd, .int u_57.1, .int f_58, .int u_57.2.2.1, .int u_57.2.2.2])), (ob, .inl (cZ, 5200, .inl bm.1)), (ok, .inl (cK, 600, .inl km.1))] H := hP
              have hD : va_D A [(om, .inr (3, [.int th, .int st, .int lo, .ref ob, .int bm.2.1, .int bm.2.2.1, .int bm.2.2.2.1, .int bm.2.2.2.2, .ref ok, .int km.2, .int qm.1, .int qm.2.1, .int qm.2.2.1, .int qm.2.2.2, .int bd, .int u_57.1, .int f_58, .int u_57.2.2.1, .int u_57.2.2.2])), (ob, .inl (cZ, 5200, .inl bm.1)), (ok, .inl (cK, 600, .inl km.1))] := hD
              refine lv_goto (tgt := 189) hx hb dX3_skip_116 (by decide) ?_
              refine lv_goto (tgt := 20) hx hb dX3_skip_189 (by decide) ?_
              exact ih th bm km qm bd (u_57.1, f_58, u_57.2.2.1, u_57.2.2.2) nn (hf.2.2 _ _ (ssX3_skip_20_34 st lo th bm km qm bd ym nn c_27 c_50 c_57 c_71 c_80 _ hw_55 _ hw_56 _ ef_58)) ((plX3_skip_l20_33 st lo n th bm km qm bd ym nn c_27 c_50 c_57 c_71 c_80 _ hw_55 _ hw_56 _ ef_58).trans hz) _ _ (hP.sub (ws' := [(om, .inr (3, [.int th, .int st, .int lo, .ref ob, .int bm.2.1, .int bm.2.2.1, .int bm.2.2.2.1, .int bm.2.2.2.2, .ref ok, .int km.2, .int qm.1, .int qm.2.1, .int qm.2.2.1, .int qm.2.2.2, .int bd, .int ((u_57.1, f_58, u_57.2.2.1, u_57.2.2.2).1), .int ((u_57.1, f_58, u_57.2.2.1, u_57.2.2.2).2.1), .int ((u_57.1, f_58, u_57.2.2.1, u_57.2.2.2).2.2.1), .int ((u_57.1, f_58, u_57.2.2.1, u_57.2.2.2).2.2.2)])), (ob, .inl (cZ, 5200, .inl bm.1)), (ok, .inl (cK, 600, .inl km.1))]) [0, 1, 2] rfl) (hD.sub (ws' := [(om, .inr (3, [.int th, .int st, .int lo, .ref ob, .int bm.2.1, .int bm.2.2.1, .int bm.2.2.2.1, .int bm.2.2.2.2, .ref ok, .int km.2, .int qm.1, .int qm.2.1, .int qm.2.2.1, .int qm.2.2.2, .int bd, .int ((u_57.1, f_58, u_57.2.2.1, u_57.2.2.2).1), .int ((u_57.1, f_58, u_57.2.2.1, u_57.2.2.2).2.1), .int ((u_57.1, f_58, u_57.2.2.1, u_57.2.2.2).2.2.1), .int ((u_57.1, f_58, u_57.2.2.1, u_57.2.2.2).2.2.2)])), (ob, .inl (cZ, 5200, .inl bm.1)), (ok, .inl (cK, 600, .inl km.1))]) [0, 1, 2] (by decide) rfl) hS ls (lv_sub hl [2, 3] rfl)
    · refine lv_aload_n hx hb dX3_skip_30 rfl (lv_at hl 0 rfl) ?_
      refine va_get (D := (dC, dI)) (ci := 3) (v := .int st) (C := RX3) (T := TX3) (N := 19) hx hb hts inGX3 hown hK hP 0 rfl rfl 1 (by decide) (hts _ wd438) (fun _ h9 => h9) rfl dX3_skip_31 ?_
      refine lv_iconst (v := 1) hx hb dX3_skip_34 (by decide) ?_
      refine lv_icmp_ne (tgt := 192) hx hb dX3_skip_35 (by decide) (fun c_35 => ?_) (fun c_35 => ?_)
      · refine lv_aload_n hx hb dX3_skip_192 rfl (lv_at hl 0 rfl) ?_
        refine lv_iload_n hx hb dX3_skip_193 rfl (lv_at hl 1 rfl) ?_
        refine lv_if_le (tgt := 201) hx hb dX3_skip_194 (by decide) (fun c_194 => ?_) (fun c_194 => ?_)
        · refine lv_aload_n hx hb dX3_skip_201 rfl (lv_at hl 0 rfl) ?_
          refine va_get (D := (dC, dI)) (ci := 3) (v := .int ym.2.2.1) (C := RX3) (T := TX3) (N := 19) hx hb hts inGX3 hown hK hP 0 rfl rfl 17 (by decide) (hts _ wd454) (fun _ h9 => h9) rfl dX3_skip_202 ?_
          refine va_put (D := (dC, dI)) (ci := 3) (v := .int ym.2.2.1) (ty := .int) (C := RX3) (T := TX3) (N := 19) hx hb hts inGX3 tyX3 tyX3_ok nmX3 hown hK hP hD hS 0 rfl rfl 17 (by decide) (hts _ wd454) (fun _ h9 => h9) rfl (by decide +kernel) rfl rfl (Nat.le_of_ble_eq_true rfl) dX3_skip_205 (fun H locs hP hD hS => ?_)
          have hP : va_P (dC, dI) vwCl [(om, .inr (3, [.int th, .int st, .int lo, .ref ob, .int bm.2.1, .int bm.2.2.1, .int bm.2.2.2.1, .int bm.2.2.2.2, .ref ok, .int km.2, .int qm.1, .int qm.2.1, .int qm.2.2.1, .int qm.2.2.2, .int bd, .int ym.1, .int ym.2.1, .int ym.2.2.1, .int ym.2.2.2])), (ob, .inl (cZ, 5200, .inl bm.1)), (ok, .inl (cK, 600, .inl km.1))] H := hP
          have hD : va_D A [(om, .inr (3, [.int th, .int st, .int lo, .ref ob, .int bm.2.1, .int bm.2.2.1, .int bm.2.2.2.1, .int bm.2.2.2.2, .ref ok, .int km.2, .int qm.1, .int qm.2.1, .int qm.2.2.1, .int qm.2.2.2, .int bd, .int ym.1, .int ym.2.1, .int ym.2.2.1, .int ym.2.2.2])), (ob, .inl (cZ, 5200, .inl bm.1)), (ok, .inl (cK, 600, .inl km.1))] := hD
          refine lv_aload_n hx hb dX3_skip_208 rfl (lv_at hl 0 rfl) ?_
          have hPc := hP.sub (ws' := [(om, .inr (3, [.int th, .int st, .int lo, .ref ob, .int bm.2.1, .int bm.2.2.1, .int bm.2.2.2.1, .int bm.2.2.2.2, .ref ok, .int km.2, .int qm.1, .int qm.2.1, .int qm.2.2.1, .int qm.2.2.2, .int bd, .int ym.1, .int ym.2.1, .int ym.2.2.1, .int ym.2.2.2])), (ob, .inl (cZ, 5200, .inl bm.1)), (ok, .inl (cK, 600, .inl km.1))]) [0, 1, 2] rfl
          have hKc := hK.sub (tys' := [(cZ, .boolean), (cK, .int)]) [0, 1] rfl
          have hDc := hD.sub (ws' := [(om, .inr (3, [.int th, .int st, .int lo, .ref ob, .int bm.2.1, .int bm.2.2.1, .int bm.2.2.2.1, .int bm.2.2.2.2, .ref ok, .int km.2, .int qm.1, .int qm.2.1, .int qm.2.2.1, .int qm.2.2.2, .int bd, .int ym.1, .int ym.2.1, .int ym.2.2.1, .int ym.2.2.2])), (ob, .inl (cZ, 5200, .inl bm.1)), (ok, .inl (cK, 600, .inl km.1))]) [0, 1, 2] (by decide) rfl
          have hFc := va_free (wc := [(om, .inr (3, [.int th, .int st, .int lo, .ref ob, .int bm.2.1, .int bm.2.2.1, .int bm.2.2.2.1, .int bm.2.2.2.2, .ref ok, .int km.2, .int qm.1, .int qm.2.1, .int qm.2.2.1, .int qm.2.2.2, .int bd, .int ym.1, .int ym.2.1, .int ym.2.2.1, .int ym.2.2.2])), (ob, .inl (cZ, 5200, .inl bm.1)), (ok, .inl (cK, 600, .inl km.1))]) hD hS hA [0, 1, 2] rfl
          refine va_callv (va_runV (As := []) (rest := []) ⟨hx, hb, hml, hown, hts⟩ (mX3_keepTry l dC dI cZ cK om ob ok H.size st lo th bm km qm bd ym hf.1.2) (cwV 0 hts (gV wd576 wd577 wd23 wd30 wd578) rfl rfl rfl (by decide +kernel) ⟨Nat.le_of_ble_eq_true rfl, Nat.le_of_ble_eq_true rfl⟩) ⟨fb_rw, va_recv hKc hPc (ci := 3) (q0 := 0) rfl rfl, pre_rw hPc hKc hDc hZ⟩ rfl rfl hl.1 rfl (lv_room (Nat.le_of_ble_eq_true rfl)) dX3_skip_209 ⟨Nat.le_of_ble_eq_true rfl, Nat.le_of_ble_eq_true rfl⟩) hS (fun q _ h => hFc q h) hFc (fun u_60 t H1 locs ht hvm hw_59 hB hz1 hk1 hS => ?_)
          obtain ⟨hP1, hD1⟩ := hB
          rw [ht] at hP1
          obtain ⟨hP, hD⟩ := va_join (wr := []) (w1 := [(om, .inr (3, [.int th, .int st, .int lo, .ref ob, .int bm.2.1, .int bm.2.2.1, .int bm.2.2.2.1, .int bm.2.2.2.2, .ref ok, .int km.2, .int u_60.1, .int u_60.2.1, .int u_60.2.2.1, .int u_60.2.2.2, .int bd, .int ym.1, .int ym.2.1, .int ym.2.2.1, .int ym.2.2.2])), (ob, .inl (cZ, 5200, .inl bm.1)), (ok, .inl (cK, 600, .inl km.1))]) hP hD [0, 1, 2] [] rfl rfl (by decide) (by decide) hk1 hFc hP1 hD1
          generalize H1 = H at hP hS ⊢
          have hP : va_P (dC, dI) vwCl [(om, .inr (3, [.int th, .int st, .int lo, .ref ob, .int bm.2.1, .int bm.2.2.1, .int bm.2.2.2.1, .int bm.2.2.2.2, .ref ok, .int km.2, .int u_60.1, .int u_60.2.1, .int u_60.2.2.1, .int u_60.2.2.2, .int bd, .int ym.1, .int ym.2.1, .int ym.2.2.1, .int ym.2.2.2])), (ob, .inl (cZ, 5200, .inl bm.1)), (ok, .inl (cK, 600, .inl km.1))] H := hP
          have hD : va_D A [(om, .inr (3, [.int th, .int st, .int lo, .ref ob, .int bm.2.1, .int bm.2.2.1, .int bm.2.2.2.1, .int bm.2.2.2.2, .ref ok, .int km.2, .int u_60.1, .int u_60.2.1, .int u_60.2.2.1, .int u_60.2.2.2, .int bd, .int ym.1, .int ym.2.1, .int ym.2.2.1, .int ym.2.2.2])), (ob, .inl (cZ, 5200, .inl bm.1)), (ok, .inl (cK, 600, .inl km.1))] := hD
          refine lv_iload_n hx hb dX3_skip_212 rfl (lv_at hl 1 rfl) ?_
          have hP9 := hP.sub (ws' := [(om, .inr (3, [.int th, .int st, .int lo, .ref ob, .int bm.2.1, .int bm.2.2.1, .int bm.2.2.2.1, .int bm.2.2.2.2, .ref ok, .int km.2, .int u_60.1, .int u_60.2.1, .int u_60.2.2.1, .int u_60.2.2.2, .int bd, .int ym.1, .int ym.2.1, .int ym.2.2.1, .int ym.2.2.2])), (ob, .inl (cZ, 5200, .inl bm.1)), (ok, .inl (cK, 600, .inl km.1))]) [0, 1, 2] rfl
          have hD9 := hD.sub (ws' := [(om, .inr (3, [.int th, .int st, .int lo, .ref ob, .int bm.2.1, .int bm.2.2.1, .int bm.2.2.2.1, .int bm.2.2.2.2, .ref ok, .int km.2, .int u_60.1, .int u_60.2.1, .int u_60.2.2.1, .int u_60.2.2.2, .int bd, .int ym.1, .int ym.2.1, .int ym.2.2.1, .int ym.2.2.2])), (ob, .inl (cZ, 5200, .inl bm.1)), (ok, .inl (cK, 600, .inl km.1))]) [0, 1, 2] (by decide) rfl
          exact W.iret (v := nn) hx hb hr (fun t ht hW => ⟨⟨nn, (th, u_60, ym), rfl, ((plX3_skip_l20_34 st lo n th bm km qm bd ym nn c_27 c_35 c_194 _ hw_59).trans hz), by rw [ht]; exact hP9, hD9⟩, hS.F ht⟩) hS.2.2 dX3_skip_213
        · refine lv_iconst (v := 0) hx hb dX3_skip_197 (by decide) ?_
          refine lv_goto (tgt := 205) hx hb dX3_skip_198 (by decide) ?_
          refine va_put (D := (dC, dI)) (ci := 3) (v := .int 0) (ty := .int) (C := RX3) (T := TX3) (N := 19) hx hb hts inGX3 tyX3 tyX3_ok nmX3 hown hK hP hD hS 0 rfl rfl 17 (by decide) (hts _ wd454) (fun _ h9 => h9) rfl (by decide +kernel) rfl rfl (Nat.le_of_ble_eq_true rfl) dX3_skip_205 (fun H locs hP hD hS => ?_)
          have hP : va_P (dC, dI) vwCl [(om, .inr (3, [.int th, .int st, .int lo, .ref ob, .int bm.2.1, .int bm.2.2.1, .int bm.2.2.2.1, .int bm.2.2.2.2, .ref ok, .int km.2, .int qm.1, .int qm.2.1, .int qm.2.2.1, .int qm.2.2.2, .int bd, .int ym.1, .int ym.2.1, .int 0, .int ym.2.2.2])), (ob, .inl (cZ, 5200, .inl bm.1)), (ok, .inl (cK, 600, .inl km.1))] H := hP
          have hD : va_D A [(om, .inr (3, [.int th, .int st, .int lo, .ref ob, .int bm.2.1, .int bm.2.2.1, .int bm.2.2.2.1, .int bm.2.2.2.2, .ref ok, .int km.2, .int qm.1, .int qm.2.1, .int qm.2.2.1, .int qm.2.2.2, .int bd, .int ym.1, .int ym.2.1, .int 0, .int ym.2.2.2])), (ob, .inl (cZ, 5200, .inl bm.1)), (ok, .inl (cK, 600, .inl km.1))] := hD
          refine lv_aload_n hx hb dX3_skip_208 rfl (lv_at hl 0 rfl) ?_
          have hPc := hP.sub (ws' := [(om, .inr (3, [.int th, .int st, .int lo, .ref ob, .int bm.2.1, .int bm.2.2.1, .int bm.2.2.2.1, .int bm.2.2.2.2, .ref ok, .int km.2, .int qm.1, .int qm.2.1, .int qm.2.2.1, .int qm.2.2.2, .int bd, .int ym.1, .int ym.2.1, .int 0, .int ym.2.2.2])), (ob, .inl (cZ, 5200, .inl bm.1)), (ok, .inl (cK, 600, .inl km.1))]) [0, 1, 2] rfl
          have hKc := hK.sub (tys' := [(cZ, .boolean), (cK, .int)]) [0, 1] rfl
          have hDc := hD.sub (ws' := [(om, .inr (3, [.int th, .int st, .int lo, .ref ob, .int bm.2.1, .int bm.2.2.1, .int bm.2.2.2.1, .int bm.2.2.2.2, .ref ok, .int km.2, .int qm.1, .int qm.2.1, .int qm.2.2.1, .int qm.2.2.2, .int bd, .int ym.1, .int ym.2.1, .int 0, .int ym.2.2.2])), (ob, .inl (cZ, 5200, .inl bm.1)), (ok, .inl (cK, 600, .inl km.1))]) [0, 1, 2] (by decide) rfl
          have hFc := va_free (wc := [(om, .inr (3, [.int th, .int st, .int lo, .ref ob, .int bm.2.1, .int bm.2.2.1, .int bm.2.2.2.1, .int bm.2.2.2.2, .ref ok, .int km.2, .int qm.1, .int qm.2.1, .int qm.2.2.1, .int qm.2.2.2, .int bd, .int ym.1, .int ym.2.1, .int 0, .int ym.2.2.2])), (ob, .inl (cZ, 5200, .inl bm.1)), (ok, .inl (cK, 600, .inl km.1))]) hD hS hA [0, 1, 2] rfl
          refine va_callv (va_runV (As := []) (rest := []) ⟨hx, hb, hml, hown, hts⟩ (mX3_keepTry l dC dI cZ cK om ob ok H.size st lo th bm km qm bd (ym.1, ym.2.1, 0, ym.2.2.2) hf.1.2) (cwV 0 hts (gV wd576 wd577 wd23 wd30 wd578) rfl rfl rfl (by decide +kernel) ⟨Nat.le_of_ble_eq_true rfl, Nat.le_of_ble_eq_true rfl⟩) ⟨fb_rw, va_recv hKc hPc (ci := 3) (q0 := 0) rfl rfl, pre_rw hPc hKc hDc hZ⟩ rfl rfl hl.1 rfl (lv_room (Nat.le_of_ble_eq_true rfl)) dX3_skip_209 ⟨Nat.le_of_ble_eq_true rfl, Nat.le_of_ble_eq_true rfl⟩) hS (fun q _ h => hFc q h) hFc (fun u_62 t H1 locs ht hvm hw_61 hB hz1 hk1 hS => ?_)
          obtain ⟨hP1, hD1⟩ := hB
          rw [ht] at hP1
          obtain ⟨hP, hD⟩ := va_join (wr := []) (w1 := [(om, .inr (3, [.int th, .int st, .int lo, .ref ob, .int bm.2.1, .int bm.2.2.1, .int bm.2.2.2.1, .int bm.2.2.2.2, .ref ok, .int km.2, .int u_62.1, .int u_62.2.1, .int u_62.2.2.1, .int u_62.2.2.2, .int bd, .int ((ym.1, ym.2.1, 0, ym.2.2.2).1), .int ((ym.1, ym.2.1, 0, ym.2.2.2).2.1), .int ((ym.1, ym.2.1, 0, ym.2.2.2).2.2.1), .int ((ym.1, ym.2.1, 0, ym.2.2.2).2.2.2)])), (ob, .inl (cZ, 5200, .inl bm.1)), (ok, .inl (cK, 600, .inl km.1))]) hP hD [0, 1, 2] [] rfl rfl (by decide) (by decide) hk1 hFc hP1 hD1
          generalize H1 = H at hP hS ⊢
          have hP : va_P (dC, dI) vwCl [(om, .inr (3, [.int th, .int st, .int lo, .ref ob, .int bm.2.1, .int bm.2.2.1, .int bm.2.2.2.1, .int bm.2.2.2.2, .ref ok, .int km.2, .int u_62.1, .int u_62.2.1, .int u_62.2.2.1, .int u_62.2.2.2, .int bd, .int ((ym.1, ym.2.1, 0, ym.2.2.2).1), .int ((ym.1, ym.2.1, 0, ym.2.2.2).2.1), .int ((ym.1, ym.2.1, 0, ym.2.2.2).2.2.1), .int ((ym.1, ym.2.1, 0, ym.2.2.2).2.2.2)])), (ob, .inl (cZ, 5200, .inl bm.1)), (ok, .inl (cK, 600, .inl km.1))] H := hP
          have hD : va_D A [(om, .inr (3, [.int th, .int st, .int lo, .ref ob, .int bm.2.1, .int bm.2.2.1, .int bm.2.2.2.1, .int bm.2.2.2.2, .ref ok, .int km.2, .int u_62.1, .int u_62.2.1, .int u_62.2.2.1, .int u_62.2.2.2, .int bd, .int ((ym.1, ym.2.1, 0, ym.2.2.2).1), .int ((ym.1, ym.2.1, 0, ym.2.2.2).2.1), .int ((ym.1, ym.2.1, 0, ym.2.2.2).2.2.1), .int ((ym.1, ym.2.1, 0, ym.2.2.2).2.2.2)])), (ob, .inl (cZ, 5200, .inl bm.1)), (ok, .inl (cK, 600, .inl km.1))] := hD
          refine lv_iload_n hx hb dX3_skip_212 rfl (lv_at hl 1 rfl) ?_
          have hP9 := hP.sub (ws' := [(om, .inr (3, [.int th, .int st, .int lo, .ref ob, .int bm.2.1, .int bm.2.2.1, .int bm.2.2.2.1, .int bm.2.2.2.2, .ref ok, .int km.2, .int u_62.1, .int u_62.2.1, .int u_62.2.2.1, .int u_62.2.2.2, .int bd, .int ((ym.1, ym.2.1, 0, ym.2.2.2).1), .int ((ym.1, ym.2.1, 0, ym.2.2.2).2.1), .int ((ym.1, ym.2.1, 0, ym.2.2.2).2.2.1), .int ((ym.1, ym.2.1, 0, ym.2.2.2).2.2.2)])), (ob, .inl (cZ, 5200, .inl bm.1)), (ok, .inl (cK, 600, .inl km.1))]) [0, 1, 2] rfl
          have hD9 := hD.sub (ws' := [(om, .inr (3, [.int th, .int st, .int lo, .ref ob, .int bm.2.1, .int bm.2.2.1, .int bm.2.2.2.1, .int bm.2.2.2.2, .ref ok, .int km.2, .int u_62.1, .int u_62.2.1, .int u_62.2.2.1, .int u_62.2.2.2, .int bd, .int ((ym.1, ym.2.1, 0, ym.2.2.2).1), .int ((ym.1, ym.2.1, 0, ym.2.2.2).2.1), .int ((ym.1, ym.2.1, 0, ym.2.2.2).2.2.1), .int ((ym.1, ym.2.1, 0, ym.2.2.2).2.2.2)])), (ob, .inl (cZ, 5200, .inl bm.1)), (ok, .inl (cK, 600, .inl km.1))]) [0, 1, 2] (by decide) rfl
          exact W.iret (v := nn) hx hb hr (fun t ht hW => ⟨⟨nn, (th, u_62, (ym.1, ym.2.1, 0, ym.2.2.2)), rfl, ((plX3_skip_l20_35 st lo n th bm km qm bd ym nn c_27 c_35 c_194 _ hw_61).trans hz), by rw [ht]; exact hP9, hD9⟩, hS.F ht⟩) hS.2.2 dX3_skip_213
      · refine lv_aload_n hx hb dX3_skip_38 rfl (lv_at hl 0 rfl) ?_
        refine va_get (D := (dC, dI)) (ci := 3) (v := .int ym.2.2.2) (C := RX3) (T := TX3) (N := 19) hx hb hts inGX3 hown hK hP 0 rfl rfl 18 (by decide) (hts _ wd455) (fun _ h9 => h9) rfl dX3_skip_39 ?_
        refine lv_if_eq (tgt := 192) hx hb dX3_skip_42 (by decide) (fun c_42 => ?_) (fun c_42 => ?_)
        · refine lv_aload_n hx hb dX3_skip_192 rfl (lv_at hl 0 rfl) ?_
          refine lv_iload_n hx hb dX3_skip_193 rfl (lv_at hl 1 rfl) ?_
          refine lv_if_le (tgt := 201) hx hb dX3_skip_194 (by decide) (fun c_194 => ?_) (fun c_194 => ?_)
          · refine lv_aload_n hx hb dX3_skip_201 rfl (lv_at hl 0 rfl) ?_
            refine va_get (D := (dC, dI)) (ci := 3) (v := .int ym.2.2.1) (C := RX3) (T := TX3) (N := 19) hx hb hts inGX3 hown hK hP 0 rfl rfl 17 (by decide) (hts _ wd454) (fun _ h9 => h9) rfl dX3_skip_202 ?_
            refine va_put (D := (dC, dI)) (ci := 3) (v := .int ym.2.2.1) (ty := .int) (C := RX3) (T := TX3) (N := 19) hx hb hts inGX3 tyX3 tyX3_ok nmX3 hown hK hP hD hS 0 rfl rfl 17 (by decide) (hts _ wd454) (fun _ h9 => h9) rfl (by decide +kernel) rfl rfl (Nat.le_of_ble_eq_true rfl) dX3_skip_205 (fun H locs hP hD hS => ?_)
            have hP : va_P (dC, dI) vwCl [(om, .inr (3, [.int th, .int st, .int lo, .ref ob, .int bm.2.1, .int bm.2.2.1, .int bm.2.2.2.1, .int bm.2.2.2.2, .ref ok, .int km.2, .int qm.1, .int qm.2.1, .int qm.2.2.1, .int qm.2.2.2, .int bd, .int ym.1, .int ym.2.1, .int ym.2.2.1, .int ym.2.2.2])), (ob, .inl (cZ, 5200, .inl bm.1)), (ok, .inl (cK, 600, .inl km.1))] H := hP
            have hD : va_D A [(om, .inr (3, [.int th, .int st, .int lo, .ref ob, .int bm.2.1, .int bm.2.2.1, .int bm.2.2.2.1, .int bm.2.2.2.2, .ref ok, .int km.2, .int qm.1, .int qm.2.1, .int qm.2.2.1, .int qm.2.2.2, .int bd, .int ym.1, .int ym.2.1, .int ym.2.2.1, .int ym.2.2.2])), (ob, .inl (cZ, 5200, .inl bm.1)), (ok, .inl (cK, 600, .inl km.1))] := hD
            refine lv_aload_n hx hb dX3_skip_208 rfl (lv_at hl 0 rfl) ?_
            have hPc := hP.sub (ws' := [(om, .inr (3, [.int th, .int st, .int lo, .ref ob, .int bm.2.1, .int bm.2.2.1, .int bm.2.2.2.1, .int bm.2.2.2.2, .ref ok, .int km.2, .int qm.1, .int qm.2.1, .int qm.2.2.1, .int qm.2.2.2, .int bd, .int ym.1, .int ym.2.1, .int ym.2.2.1, .int ym.2.2.2])), (ob, .inl (cZ, 5200, .inl bm.1)), (ok, .inl (cK, 600, .inl km.1))]) [0, 1, 2] rfl
            have hKc := hK.sub (tys' := [(cZ, .boolean), (cK, .int)]) [0, 1] rfl
            have hDc := hD.sub (ws' := [(om, .inr (3, [.int th, .int st, .int lo, .ref ob, .int bm.2.1, .int bm.2.2.1, .int bm.2.2.2.1, .int bm.2.2.2.2, .ref ok, .int km.2, .int qm.1, .int qm.2.1, .int qm.2.2.1, .int qm.2.2.2, .int bd, .int ym.1, .int ym.2.1, .int ym.2.2.1, .int ym.2.2.2])), (ob, .inl (cZ, 5200, .inl bm.1)), (ok, .inl (cK, 600, .inl km.1))]) [0, 1, 2] (by decide) rfl
            have hFc := va_free (wc := [(om, .inr (3, [.int th, .int st, .int lo, .ref ob, .int bm.2.1, .int bm.2.2.1, .int bm.2.2.2.1, .int bm.2.2.2.2, .ref ok, .int km.2, .int qm.1, .int qm.2.1, .int qm.2.2.1, .int qm.2.2.2, .int bd, .int ym.1, .int ym.2.1, .int ym.2.2.1, .int ym.2.2.2])), (ob, .inl (cZ, 5200, .inl bm.1)), (ok, .inl (cK, 600, .inl km.1))]) hD hS hA [0, 1, 2] rfl
            refine va_callv (va_runV (As := []) (rest := []) ⟨hx, hb, hml, hown, hts⟩ (mX3_keepTry l dC dI cZ cK om ob ok H.size st lo th bm km qm bd ym hf.1.2) (cwV 0 hts (gV wd576 wd577 wd23 wd30 wd578) rfl rfl rfl (by decide +kernel) ⟨Nat.le_of_ble_eq_true rfl, Nat.le_of_ble_eq_true rfl⟩) ⟨fb_rw, va_recv hKc hPc (ci := 3) (q0 := 0) rfl rfl, pre_rw hPc hKc hDc hZ⟩ rfl rfl hl.1 rfl (lv_room (Nat.le_of_ble_eq_true rfl)) dX3_skip_209 ⟨Nat.le_of_ble_eq_true rfl, Nat.le_of_ble_eq_true rfl⟩) hS (fun q _ h => hFc q h) hFc (fun u_64 t H1 locs ht hvm hw_63 hB hz1 hk1 hS => ?_)
            obtain ⟨hP1, hD1⟩ := hB
            rw [ht] at hP1
            obtain ⟨hP, hD⟩ := va_join (wr := []) (w1 := [(om, .inr (3, [.int th, .int st, .int lo, .ref ob, .int bm.2.1, .int bm.2.2.1, .int bm.2.2.2.1, .int bm.2.2.2.2, .ref ok, .int km.2, .int u_64.1, .int u_64.2.1, .int u_64.2.2.1, .int u_64.2.2.2, .int bd, .int ym.1, .int ym.2.1, .int ym.2.2.1, .int ym.2.2.2])), (ob, .inl (cZ, 5200, .inl bm.1)), (ok, .inl (cK, 600, .inl km.1))]) hP hD [0, 1, 2] [] rfl rfl (by decide) (by decide) hk1 hFc hP1 hD1
            generalize H1 = H at hP hS ⊢
            have hP : va_P (dC, dI) vwCl [(om, .inr (3, [.int th, .int st, .int lo, .ref ob, .int bm.2.1, .int bm.2.2.1, .int bm.2.2.2.1, .int bm.2.2.2.2, .ref ok, .int km.2, .int u_64.1, .int u_64.2.1, .int u_64.2.2.1, .int u_64.2.2.2, .int bd, .int ym.1, .int ym.2.1, .int ym.2.2.1, .int ym.2.2.2])), (ob, .inl (cZ, 5200, .inl bm.1)), (ok, .inl (cK, 600, .inl km.1))] H := hP
            have hD : va_D A [(om, .inr (3, [.int th, .int st, .int lo, .ref ob, .int bm.2.1, .int bm.2.2.1, .int bm.2.2.2.1, .int bm.2.2.2.2, .ref ok, .int km.2, .int u_64.1, .int u_64.2.1, .int u_64.2.2.1, .int u_64.2.2.2, .int bd, .int ym.1, .int ym.2.1, .int ym.2.2.1, .int ym.2.2.2])), (ob, .inl (cZ, 5200, .inl bm.1)), (ok, .inl (cK, 600, .inl km.1))] := hD
            refine lv_iload_n hx hb dX3_skip_212 rfl (lv_at hl 1 rfl) ?_
            have hP9 := hP.sub (ws' := [(om, .inr (3, [.int th, .int st, .int lo, .ref ob, .int bm.2.1, .int bm.2.2.1, .int bm.2.2.2.1, .int bm.2.2.2.2, .ref ok, .int km.2, .int u_64.1, .int u_64.2.1, .int u_64.2.2.1, .int u_64.2.2.2, .int bd, .int ym.1, .int ym.2.1, .int ym.2.2.1, .int ym.2.2.2])), (ob, .inl (cZ, 5200, .inl bm.1)), (ok, .inl (cK, 600, .inl km.1))]) [0, 1, 2] rfl
            have hD9 := hD.sub (ws' := [(om, .inr (3, [.int th, .int st, .int lo, .ref ob, .int bm.2.1, .int bm.2.2.1, .int bm.2.2.2.1, .int bm.2.2.2.2, .ref ok, .int km.2, .int u_64.1, .int u_64.2.1, .int u_64.2.2.1, .int u_64.2.2.2, .int bd, .int ym.1, .int ym.2.1, .int ym.2.2.1, .int ym.2.2.2])), (ob, .inl (cZ, 5200, .inl bm.1)), (ok, .inl (cK, 600, .inl km.1))]) [0, 1, 2] (by decide) rfl
            exact W.iret (v := nn) hx hb hr (fun t ht hW => ⟨⟨nn, (th, u_64, ym), rfl, ((plX3_skip_l20_36 st lo n th bm km qm bd ym nn c_27 c_35 c_42 c_194 _ hw_63).trans hz), by rw [ht]; exact hP9, hD9⟩, hS.F ht⟩) hS.2.2 dX3_skip_213
          · refine lv_iconst (v := 0) hx hb dX3_skip_197 (by decide) ?_
            refine lv_goto (tgt := 205) hx hb dX3_skip_198 (by decide) ?_
            refine va_put (D := (dC, dI)) (ci := 3) (v := .int 0) (ty := .int) (C := RX3) (T := TX3) (N := 19) hx hb hts inGX3 tyX3 tyX3_ok nmX3 hown hK hP hD hS 0 rfl rfl 17 (by decide) (hts _ wd454) (fun _ h9 => h9) rfl (by decide +kernel) rfl rfl (Nat.le_of_ble_eq_true rfl) dX3_skip_205 (fun H locs hP hD hS => ?_)
            have hP : va_P (dC, dI) vwCl [(om, .inr (3, [.int th, .int st, .int lo, .ref ob, .int bm.2.1, .int bm.2.2.1, .int bm.2.2.2.1, .int bm.2.2.2.2, .ref ok, .int km.2, .int qm.1, .int qm.2.1, .int qm.2.2.1, .int qm.2.2.2, .int bd, .int ym.1, .int ym.2.1, .int 0, .int ym.2.2.2])), (ob, .inl (cZ, 5200, .inl bm.1)), (ok, .inl (cK, 600, .inl km.1))] H := hP
            have hD : va_D A [(om, .inr (3, [.int th, .int st, .int lo, .ref ob, .int bm.2.1, .int bm.2.2.1, .int bm.2.2.2.1, .int bm.2.2.2.2, .ref ok, .int km.2, .int qm.1, .int qm.2.1, .int qm.2.2.1, .int qm.2.2.2, .int bd, .int ym.1, .int ym.2.1, .int 0, .int ym.2.2.2])), (ob, .inl (cZ, 5200, .inl bm.1)), (ok, .inl (cK, 600, .inl km.1))] := hD
            refine lv_aload_n hx hb dX3_skip_208 rfl (lv_at hl 0 rfl) ?_
            have hPc := hP.sub (ws' := [(om, .inr (3, [.int th, .int st, .int lo, .ref ob, .int bm.2.1, .int bm.2.2.1, .int bm.2.2.2.1, .int bm.2.2.2.2, .ref ok, .int km.2, .int qm.1, .int qm.2.1, .int qm.2.2.1, .int qm.2.2.2, .int bd, .int ym.1, .int ym.2.1, .int 0, .int ym.2.2.2])), (ob, .inl (cZ, 5200, .inl bm.1)), (ok, .inl (cK, 600, .inl km.1))]) [0, 1, 2] rfl
            have hKc := hK.sub (tys' := [(cZ, .boolean), (cK, .int)]) [0, 1] rfl
            have hDc := hD.sub (ws' := [(om, .inr (3, [.int th, .int st, .int lo, .ref ob, .int bm.2.1, .int bm.2.2.1, .int bm.2.2.2.1, .int bm.2.2.2.2, .ref ok, .int km.2, .int qm.1, .int qm.2.1, .int qm.2.2.1, .int qm.2.2.2, .int bd, .int ym.1, .int ym.2.1, .int 0, .int ym.2.2.2])), (ob, .inl (cZ, 5200, .inl bm.1)), (ok, .inl (cK, 600, .inl km.1))]) [0, 1, 2] (by decide) rfl
            have hFc := va_free (wc := [(om, .inr (3, [.int th, .int st, .int lo, .ref ob, .int bm.2.1, .int bm.2.2.1, .int bm.2.2.2.1, .int bm.2.2.2.2, .ref ok, .int km.2, .int qm.1, .int qm.2.1, .int qm.2.2.1, .int qm.2.2.2, .int bd, .int ym.1, .int ym.2.1, .int 0, .int ym.2.2.2])), (ob, .inl (cZ, 5200, .inl bm.1)), (ok, .inl (cK, 600, .inl km.1))]) hD hS hA [0, 1, 2] rfl
            refine va_callv (va_runV (As := []) (rest := []) ⟨hx, hb, hml, hown, hts⟩ (mX3_keepTry l dC dI cZ cK om ob ok H.size st lo th bm km qm bd (ym.1, ym.2.1, 0, ym.2.2.2) hf.1.2) (cwV 0 hts (gV wd576 wd577 wd23 wd30 wd578) rfl rfl rfl (by decide +kernel) ⟨Nat.le_of_ble_eq_true rfl, Nat.le_of_ble_eq_true rfl⟩) ⟨fb_rw, va_recv hKc hPc (ci := 3) (q0 := 0) rfl rfl, pre_rw hPc hKc hDc hZ⟩ rfl rfl hl.1 rfl (lv_room (Nat.le_of_ble_eq_true rfl)) dX3_skip_209 ⟨Nat.le_of_ble_eq_true rfl, Nat.le_of_ble_eq_true rfl⟩) hS (fun q _ h => hFc q h) hFc (fun u_66 t H1 locs ht hvm hw_65 hB hz1 hk1 hS => ?_)
            obtain ⟨hP1, hD1⟩ := hB
            rw [ht] at hP1
            obtain ⟨hP, hD⟩ := va_join (wr := []) (w1 := [(om, .inr (3, [.int th, .int st, .int lo, .ref ob, .int bm.2.1, .int bm.2.2.1, .int bm.2.2.2.1, .int bm.2.2.2.2, .ref ok, .int km.2, .int u_66.1, .int u_66.2.1, .int u_66.2.2.1, .int u_66.2.2.2, .int bd, .int ((ym.1, ym.2.1, 0, ym.2.2.2).1), .int ((ym.1, ym.2.1, 0, ym.2.2.2).2.1), .int ((ym.1, ym.2.1, 0, ym.2.2.2).2.2.1), .int ((ym.1, ym.2.1, 0, ym.2.2.2).2.2.2)])), (ob, .inl (cZ, 5200, .inl bm.1)), (ok, .inl (cK, 600, .inl km.1))]) hP hD [0, 1, 2] [] rfl rfl (by decide) (by decide) hk1 hFc hP1 hD1
            generalize H1 = H at hP hS ⊢
            have hP : va_P (dC, dI) vwCl [(om, .inr (3, [.int th, .int st, .int lo, .ref ob, .int bm.2.1, .int bm.2.2.1, .int bm.2.2.2.1, .int bm.2.2.2.2, .ref ok, .int km.2, .int u_66.1, .int u_66.2.1, .int u_66.2.2.1, .int u_66.2.2.2, .int bd, .int ((ym.1, ym.2.1, 0, ym.2.2.2).1), .int ((ym.1, ym.2.1, 0, ym.2.2.2).2.1), .int ((ym.1, ym.2.1, 0, ym.2.2.2).2.2.1), .int ((ym.1, ym.2.1, 0, ym.2.2.2).2.2.2)])), (ob, .inl (cZ, 5200, .inl bm.1)), (ok, .inl (cK, 600, .inl km.1))] H := hP
            have hD : va_D A [(om, .inr (3, [.int th, .int st, .int lo, .ref ob, .int bm.2.1, .int bm.2.2.1, .int bm.2.2.2.1, .int bm.2.2.2.2, .ref ok, .int km.2, .int u_66.1, .int u_66.2.1, .int u_66.2.2.1, .int u_66.2.2.2, .int bd, .int ((ym.1, ym.2.1, 0, ym.2.2.2).1), .int ((ym.1, ym.2.1, 0, ym.2.2.2).2.1), .int ((ym.1, ym.2.1, 0, ym.2.2.2).2.2.1), .int ((ym.1, ym.2.1, 0, ym.2.2.2).2.2.2)])), (ob, .inl (cZ, 5200, .inl bm.1)), (ok, .inl (cK, 600, .inl km.1))] := hD
            refine lv_iload_n hx hb dX3_skip_212 rfl (lv_at hl 1 rfl) ?_
            have hP9 := hP.sub (ws' := [(om, .inr (3, [.int th, .int st, .int lo, .ref ob, .int bm.2.1, .int bm.2.2.1, .int bm.2.2.2.1, .int bm.2.2.2.2, .ref ok, .int km.2, .int u_66.1, .int u_66.2.1, .int u_66.2.2.1, .int u_66.2.2.2, .int bd, .int ((ym.1, ym.2.1, 0, ym.2.2.2).1), .int ((ym.1, ym.2.1, 0, ym.2.2.2).2.1), .int ((ym.1, ym.2.1, 0, ym.2.2.2).2.2.1), .int ((ym.1, ym.2.1, 0, ym.2.2.2).2.2.2)])), (ob, .inl (cZ, 5200, .inl bm.1)), (ok, .inl (cK, 600, .inl km.1))]) [0, 1, 2] rfl
            have hD9 := hD.sub (ws' := [(om, .inr (3, [.int th, .int st, .int lo, .ref ob, .int bm.2.1, .int bm.2.2.1, .int bm.2.2.2.1, .int bm.2.2.2.2, .ref ok, .int km.2, .int u_66.1, .int u_66.2.1, .int u_66.2.2.1, .int u_66.2.2.2, .int bd, .int ((ym.1, ym.2.1, 0, ym.2.2.2).1), .int ((ym.1, ym.2.1, 0, ym.2.2.2).2.1), .int ((ym.1, ym.2.1, 0, ym.2.2.2).2.2.1), .int ((ym.1, ym.2.1, 0, ym.2.2.2).2.2.2)])), (ob, .inl (cZ, 5200, .inl bm.1)), (ok, .inl (cK, 600, .inl km.1))]) [0, 1, 2] (by decide) rfl
            exact W.iret (v := nn) hx hb hr (fun t ht hW => ⟨⟨nn, (th, u_66, (ym.1, ym.2.1, 0, ym.2.2.2)), rfl, ((plX3_skip_l20_37 st lo n th bm km qm bd ym nn c_27 c_35 c_42 c_194 _ hw_65).trans hz), by rw [ht]; exact hP9, hD9⟩, hS.F ht⟩) hS.2.2 dX3_skip_213
        · refine lv_aload_n hx hb dX3_skip_45 rfl (lv_at hl 0 rfl) ?_
          refine va_get (D := (dC, dI)) (ci := 3) (v := .int st) (C := RX3) (T := TX3) (N := 19) hx hb hts inGX3 hown hK hP 0 rfl rfl 1 (by decide) (hts _ wd438) (fun _ h9 => h9) rfl dX3_skip_46 ?_
          refine lv_iconst (v := 1) hx hb dX3_skip_49 (by decide) ?_
          refine lv_icmp_ne (tgt := 87) hx hb dX3_skip_50 (by decide) (fun c_50 => ?_) (fun c_50 => ?_)
          · refine lv_iconst (v := 0) hx hb dX3_skip_87 (by decide) ?_
            refine lv_istore_n (lv' := [(2, .int 0), (0, .ref om), (1, .int nn)]) hx hb dX3_skip_88 rfl hl (by decide) rfl (fun ls hl => ?_)
            refine lv_aload_n hx hb dX3_skip_89 rfl (lv_at hl 1 rfl) ?_
            refine lv_aload_n hx hb dX3_skip_90 rfl (lv_at hl 1 rfl) ?_
            refine va_get (D := (dC, dI)) (ci := 3) (v := .int ym.1) (C := RX3) (T := TX3) (N := 19) hx hb hts inGX3 hown hK hP 0 rfl rfl 15 (by decide) (hts _ wd452) (fun _ h9 => h9) rfl dX3_skip_91 ?_
            have hPc := hP.sub (ws' := [(om, .inr (3, [.int th, .int st, .int lo, .ref ob, .int bm.2.1, .int bm.2.2.1, .int bm.2.2.2.1, .int bm.2.2.2.2, .ref ok, .int km.2, .int qm.1, .int qm.2.1, .int qm.2.2.1, .int qm.2.2.2, .int bd, .int ym.1, .int ym.2.1, .int ym.2.2.1, .int ym.2.2.2])), (ob, .inl (cZ, 5200, .inl bm.1)), (ok, .inl (cK, 600, .inl km.1))]) [0, 1, 2] rfl
            have hKc := hK.sub (tys' := [(cZ, .boolean), (cK, .int)]) [0, 1] rfl
            refine vp_callSi (va_Run.run (va_runV (As := [.int ym.1]) (rest := []) ⟨hx, hb, hml, hown, hts⟩ (mX3_bitAt l dC dI cZ cK om ob ok st lo th bm km qm bd ym ym.1 (t_in (by first | exact hf.2.1 (Or.inl c_27) | exact hf.2.1 (Or.inr ⟨c_35, c_42⟩)))) (cwV 1 hts (gV wd569 wd570 wd21 wd30 wd571) rfl rfl rfl (by decide +kernel) ⟨Nat.le_of_ble_eq_true rfl, Nat.le_of_ble_eq_true rfl⟩) ⟨fb_ro, va_recv hKc hPc (ci := 3) (q0 := 0) rfl rfl, pre_ro hPc hKc hZ⟩ rfl rfl hl.1 rfl (lv_room (Nat.le_of_ble_eq_true rfl)) dX3_skip_94 ⟨Nat.le_of_ble_eq_true rfl, Nat.le_of_ble_eq_true rfl⟩)) (fun r_67 hw_68 => ?_)
            refine lv_istore_n (lv' := [(3, .int r_67), (2, .int 0), (0, .ref om), (1, .int nn)]) hx hb dX3_skip_97 rfl hl (by decide) rfl (fun ls hl => ?_)
            refine lv_aload_n hx hb dX3_skip_98 rfl (lv_at hl 2 rfl) ?_
            have hPc := hP.sub (ws' := [(om, .inr (3, [.int th, .int st, .int lo, .ref ob, .int bm.2.1, .int bm.2.2.1, .int bm.2.2.2.1, .int bm.2.2.2.2, .ref ok, .int km.2, .int qm.1, .int qm.2.1, .int qm.2.2.1, .int qm.2.2.2, .int bd, .int ym.1, .int ym.2.1, .int ym.2.2.1, .int ym.2.2.2])), (ob, .inl (cZ, 5200, .inl bm.1)), (ok, .inl (cK, 600, .inl km.1))]) [0, 1, 2] rfl
            have hKc := hK.sub (tys' := [(cZ, .boolean), (cK, .int)]) [0, 1] rfl
            have hDc := hD.sub (ws' := [(om, .inr (3, [.int th, .int st, .int lo, .ref ob, .int bm.2.1, .int bm.2.2.1, .int bm.2.2.2.1, .int bm.2.2.2.2, .ref ok, .int km.2, .int qm.1, .int qm.2.1, .int qm.2.2.1, .int qm.2.2.2, .int bd, .int ym.1, .int ym.2.1, .int ym.2.2.1, .int ym.2.2.2])), (ob, .inl (cZ, 5200, .inl bm.1)), (ok, .inl (cK, 600, .inl km.1))]) [0, 1, 2] (by decide) rfl
            have hFc := va_free (wc := [(om, .inr (3, [.int th, .int st, .int lo, .ref ob, .int bm.2.1, .int bm.2.2.1, .int bm.2.2.2.1, .int bm.2.2.2.2, .ref ok, .int km.2, .int qm.1, .int qm.2.1, .int qm.2.2.1, .int qm.2.2.2, .int bd, .int ym.1, .int ym.2.1, .int ym.2.2.1, .int ym.2.2.2])), (ob, .inl (cZ, 5200, .inl bm.1)), (ok, .inl (cK, 600, .inl km.1))]) hD hS hA [0, 1, 2] rfl
            refine va_callv (va_runV (As := []) (rest := []) ⟨hx, hb, hml, hown, hts⟩ (mX3_goOn l dC dI cZ cK om ob ok H.size st lo th bm km qm bd ym (by first | exact hf.2.1 (Or.inl c_27) | exact hf.2.1 (Or.inr ⟨c_35, c_42⟩))) (cwV 0 hts (gV wd572 wd573 wd22 wd30 wd574) rfl rfl rfl (by decide +kernel) ⟨Nat.le_of_ble_eq_true rfl, Nat.le_of_ble_eq_true rfl⟩) ⟨fb_rw, va_recv hKc hPc (ci := 3) (q0 := 0) rfl rfl, pre_rw hPc hKc hDc hZ⟩ rfl rfl hl.1 rfl (lv_room (Nat.le_of_ble_eq_true rfl)) dX3_skip_99 ⟨Nat.le_of_ble_eq_true rfl, Nat.le_of_ble_eq_true rfl⟩) hS (fun q _ h => hFc q h) hFc (fun u_70 t H1 locs ht hvm hw_69 hB hz1 hk1 hS => ?_)
            obtain ⟨hP1, hD1⟩ := hB
            rw [ht] at hP1
            obtain ⟨hP, hD⟩ := va_join (wr := []) (w1 := [(om, .inr (3, [.int th, .int st, .int lo, .ref ob, .int bm.2.1, .int bm.2.2.1, .int bm.2.2.2.1, .int bm.2.2.2.2, .ref ok, .int km.2, .int qm.1, .int qm.2.1, .int qm.2.2.1, .int qm.2.2.2, .int bd, .int u_70.1, .int u_70.2.1, .int u_70.2.2.1, .int u_70.2.2.2])), (ob, .inl (cZ, 5200, .inl bm.1)), (ok, .inl (cK, 600, .inl km.1))]) hP hD [0, 1, 2] [] rfl rfl (by decide) (by decide) hk1 hFc hP1 hD1
            generalize H1 = H at hP hS ⊢
            have hP : va_P (dC, dI) vwCl [(om, .inr (3, [.int th, .int st, .int lo, .ref ob, .int bm.2.1, .int bm.2.2.1, .int bm.2.2.2.1, .int bm.2.2.2.2, .ref ok, .int km.2, .int qm.1, .int qm.2.1, .int qm.2.2.1, .int qm.2.2.2, .int bd, .int u_70.1, .int u_70.2.1, .int u_70.2.2.1, .int u_70.2.2.2])), (ob, .inl (cZ, 5200, .inl bm.1)), (ok, .inl (cK, 600, .inl km.1))] H := hP
            have hD : va_D A [(om, .inr (3, [.int th, .int st, .int lo, .ref ob, .int bm.2.1, .int bm.2.2.1, .int bm.2.2.2.1, .int bm.2.2.2.2, .ref ok, .int km.2, .int qm.1, .int qm.2.1, .int qm.2.2.1, .int qm.2.2.2, .int bd, .int u_70.1, .int u_70.2.1, .int u_70.2.2.1, .int u_70.2.2.2])), (ob, .inl (cZ, 5200, .inl bm.1)), (ok, .inl (cK, 600, .inl km.1))] := hD
            refine lv_iload_n hx hb dX3_skip_102 rfl (lv_at hl 1 rfl) ?_
            refine lv_if_eq (tgt := 119) hx hb dX3_skip_103 (by decide) (fun c_103 => ?_) (fun c_103 => absurd c_103 (by decide))
            obtain ⟨i_71, ei_71⟩ : ∃ y : Int32, y = nn + 1 := ⟨_, rfl⟩
            refine lv_iinc (v := i_71) (lv' := [(1, .int i_71), (3, .int r_67), (2, .int 0), (0, .ref om)]) hx hb dX3_skip_119 hl (k := 3) rfl (by rw [ei_71]; rfl) (by decide) rfl (fun ls hl => ?_)
            refine lv_aload_n hx hb dX3_skip_122 rfl (lv_at hl 3 rfl) ?_
            refine lv_iload_n hx hb dX3_skip_123 rfl (lv_at hl 1 rfl) ?_
            refine lv_iconst (v := 1) hx hb dX3_skip_124 (by decide) ?_
            refine lv_icmp_ne (tgt := 137) hx hb dX3_skip_125 (by decide) (fun c_125 => ?_) (fun c_125 => ?_)
            · refine lv_iconst (v := 0) hx hb dX3_skip_137 (by decide) ?_
              refine va_put (D := (dC, dI)) (ci := 3) (v := .int 0) (ty := .int) (C := RX3) (T := TX3) (N := 19) hx hb hts inGX3 tyX3 tyX3_ok nmX3 hown hK hP hD hS 0 rfl rfl 17 (by decide) (hts _ wd454) (fun _ h9 => h9) rfl (by decide +kernel) rfl rfl (Nat.le_of_ble_eq_true rfl) dX3_skip_138 (fun H locs hP hD hS => ?_)
              have hP : va_P (dC, dI) vwCl [(om, .inr (3, [.int th, .int st, .int lo, .ref ob, .int bm.2.1, .int bm.2.2.1, .int bm.2.2.2.1, .int bm.2.2.2.2, .ref ok, .int km.2, .int qm.1, .int qm.2.1, .int qm.2.2.1, .int qm.2.2.2, .int bd, .int u_70.1, .int u_70.2.1, .int 0, .int u_70.2.2.2])), (ob, .inl (cZ, 5200, .inl bm.1)), (ok, .inl (cK, 600, .inl km.1))] H := hP
              have hD : va_D A [(om, .inr (3, [.int th, .int st, .int lo, .ref ob, .int bm.2.1, .int bm.2.2.1, .int bm.2.2.2.1, .int bm.2.2.2.2, .ref ok, .int km.2, .int qm.1, .int qm.2.1, .int qm.2.2.1, .int qm.2.2.2, .int bd, .int u_70.1, .int u_70.2.1, .int 0, .int u_70.2.2.2])), (ob, .inl (cZ, 5200, .inl bm.1)), (ok, .inl (cK, 600, .inl km.1))] := hD
              refine lv_aload_n hx hb dX3_skip_141 rfl (lv_at hl 3 rfl) ?_
              refine va_get (D := (dC, dI)) (ci := 3) (v := .int st) (C := RX3) (T := TX3) (N := 19) hx hb hts inGX3 hown hK hP 0 rfl rfl 1 (by decide) (hts _ wd438) (fun _ h9 => h9) rfl dX3_skip_142 ?_
              refine lv_iconst (v := 1) hx hb dX3_skip_145 (by decide) ?_
              refine lv_icmp_le (tgt := 189) hx hb dX3_skip_146 (by decide) (fun c_146 => ?_) (fun c_146 => ?_)
              · refine lv_goto (tgt := 20) hx hb dX3_skip_189 (by decide) ?_
                exact ih th bm km qm bd (u_70.1, u_70.2.1, 0, u_70.2.2.2) i_71 (hf.2.2 _ _ (ssX3_skip_20_35 st lo th bm km qm bd ym nn c_27 c_35 c_42 c_50 _ hw_68 _ hw_69 _ ei_71 c_125 c_146)) ((plX3_skip_l20_38 st lo n th bm km qm bd ym nn c_27 c_35 c_42 c_50 _ hw_68 _ hw_69 _ ei_71 c_125 c_146).trans hz) _ _ (hP.sub (ws' := [(om, .inr (3, [.int th, .int st, .int lo, .ref ob, .int bm.2.1, .int bm.2.2.1, .int bm.2.2.2.1, .int bm.2.2.2.2, .ref ok, .int km.2, .int qm.1, .int qm.2.1, .int qm.2.2.1, .int qm.2.2.2, .int bd, .int ((u_70.1, u_70.2.1, 0, u_70.2.2.2).1), .int ((u_70.1, u_70.2.1, 0, u_70.2.2.2).2.1), .int ((u_70.1, u_70.2.1, 0, u_70.2.2.2).2.2.1), .int ((u_70.1, u_70.2.1, 0, u_70.2.2.2).2.2.2)])), (ob, .inl (cZ, 5200, .inl bm.1)), (ok, .inl (cK, 600, .inl km.1))]) [0, 1, 2] rfl) (hD.sub (ws' := [(om, .inr (3, [.int th, .int st, .int lo, .ref ob, .int bm.2.1, .int bm.2.2.1, .int bm.2.2.2.1, .int bm.2.2.2.2, .ref ok, .int km.2, .int qm.1, .int qm.2.1, .int qm.2.2.1, .int qm.2.2.2, .int bd, .int ((u_70.1, u_70.2.1, 0, u_70.2.2.2).1), .int ((u_70.1, u_70.2.1, 0, u_70.2.2.2).2.1), .int ((u_70.1, u_70.2.1, 0, u_70.2.2.2).2.2.1), .int ((u_70.1, u_70.2.1, 0, u_70.2.2.2).2.2.2)])), (ob, .inl (cZ, 5200, .inl bm.1)), (ok, .inl (cK, 600, .inl km.1))]) [0, 1, 2] (by decide) rfl) hS ls (lv_sub hl [3, 0] rfl)
              · refine lv_aload_n hx hb dX3_skip_149 rfl (lv_at hl 3 rfl) ?_
                refine va_get (D := (dC, dI)) (ci := 3) (v := .int 0) (C := RX3) (T := TX3) (N := 19) hx hb hts inGX3 hown hK hP 0 rfl rfl 17 (by decide) (hts _ wd454) (fun _ h9 => h9) rfl dX3_skip_150 ?_
                refine lv_aload_n hx hb dX3_skip_153 rfl (lv_at hl 3 rfl) ?_
                refine va_get (D := (dC, dI)) (ci := 3) (v := .int st) (C := RX3) (T := TX3) (N := 19) hx hb hts inGX3 hown hK hP 0 rfl rfl 1 (by decide) (hts _ wd438) (fun _ h9 => h9) rfl dX3_skip_154 ?_
                refine lv_icmp_ne (tgt := 189) hx hb dX3_skip_157 (by decide) (fun c_157 => ?_) (fun c_157 => ?_)
                · refine lv_goto (tgt := 20) hx hb dX3_skip_189 (by decide) ?_
                  exact ih th bm km qm bd (u_70.1, u_70.2.1, 0, u_70.2.2.2) i_71 (hf.2.2 _ _ (ssX3_skip_20_36 st lo th bm km qm bd ym nn c_27 c_35 c_42 c_50 _ hw_68 _ hw_69 _ ei_71 c_125 c_146 c_157)) ((plX3_skip_l20_39 st lo n th bm km qm bd ym nn c_27 c_35 c_42 c_50 _ hw_68 _ hw_69 _ ei_71 c_125 c_146 c_157).trans hz) _ _ (hP.sub (ws' := [(om, .inr (3, [.int th, .int st, .int lo, .ref ob, .int bm.2.1, .int bm.2.2.1, .int bm.2.2.2.1, .int bm.2.2.2.2, .ref ok, .int km.2, .int qm.1, .int qm.2.1, .int qm.2.2.1, .int qm.2.2.2, .int bd, .int ((u_70.1, u_70.2.1, 0, u_70.2.2.2).1), .int ((u_70.1, u_70.2.1, 0, u_70.2.2.2).2.1), .int ((u_70.1, u_70.2.1, 0, u_70.2.2.2).2.2.1), .int ((u_70.1, u_70.2.1, 0, u_70.2.2.2).2.2.2)])), (ob, .inl (cZ, 5200, .inl bm.1)), (ok, .inl (cK, 600, .inl km.1))]) [0, 1, 2] rfl) (hD.sub (ws' := [(om, .inr (3, [.int th, .int st, .int lo, .ref ob, .int bm.2.1, .int bm.2.2.1, .int bm.2.2.2.1, .int bm.2.2.2.2, .ref ok, .int km.2, .int qm.1, .int qm.2.1, .int qm.2.2.1, .int qm.2.2.2, .int bd, .int ((u_70.1, u_70.2.1, 0, u_70.2.2.2).1), .int ((u_70.1, u_70.2.1, 0, u_70.2.2.2).2.1), .int ((u_70.1, u_70.2.1, 0, u_70.2.2.2).2.2.1), .int ((u_70.1, u_70.2.1, 0, u_70.2.2.2).2.2.2)])), (ob, .inl (cZ, 5200, .inl bm.1)), (ok, .inl (cK, 600, .inl km.1))]) [0, 1, 2] (by decide) rfl) hS ls (lv_sub hl [3, 0] rfl)
                · refine lv_aload_n hx hb dX3_skip_160 rfl (lv_at hl 3 rfl) ?_
                  refine va_get (D := (dC, dI)) (ci := 3) (v := .int u_70.1) (C := RX3) (T := TX3) (N := 19) hx hb hts inGX3 hown hK hP 0 rfl rfl 15 (by decide) (hts _ wd452) (fun _ h9 => h9) rfl dX3_skip_161 ?_
                  refine lv_bipush (v := 8) hx hb dX3_skip_164 (by decide) ?_
                  refine lv_irem hx hb dX3_skip_166 (by decide) ?_
                  refine lv_if_eq (tgt := 189) hx hb dX3_skip_167 (by decide) (fun c_167 => ?_) (fun c_167 => ?_)
                  · refine lv_goto (tgt := 20) hx hb dX3_skip_189 (by decide) ?_
                    exact ih th bm km qm bd (u_70.1, u_70.2.1, 0, u_70.2.2.2) i_71 (hf.2.2 _ _ (ssX3_skip_20_37 st lo th bm km qm bd ym nn c_27 c_35 c_42 c_50 _ hw_68 _ hw_69 _ ei_71 c_125 c_146 c_157 c_167)) ((plX3_skip_l20_40 st lo n th bm km qm bd ym nn c_27 c_35 c_42 c_50 _ hw_68 _ hw_69 _ ei_71 c_125 c_146 c_157 c_167).trans hz) _ _ (hP.sub (ws' := [(om, .inr (3, [.int th, .int st, .int lo, .ref ob, .int bm.2.1, .int bm.2.2.1, .int bm.2.2.2.1, .int bm.2.2.2.2, .ref ok, .int km.2, .int qm.1, .int qm.2.1, .int qm.2.2.1, .int qm.2.2.2, .int bd, .int ((u_70.1, u_70.2.1, 0, u_70.2.2.2).1), .int ((u_70.1, u_70.2.1, 0, u_70.2.2.2).2.1), .int ((u_70.1, u_70.2.1, 0, u_70.2.2.2).2.2.1), .int ((u_70.1, u_70.2.1, 0, u_70.2.2.2).2.2.2)])), (ob, .inl (cZ, 5200, .inl bm.1)), (ok, .inl (cK, 600, .inl km.1))]) [0, 1, 2] rfl) (hD.sub (ws' := [(om, .inr (3, [.int th, .int st, .int lo, .ref ob, .int bm.2.1, .int bm.2.2.1, .int bm.2.2.2.1, .int bm.2.2.2.2, .ref ok, .int km.2, .int qm.1, .int qm.2.1, .int qm.2.2.1, .int qm.2.2.2, .int bd, .int ((u_70.1, u_70.2.1, 0, u_70.2.2.2).1), .int ((u_70.1, u_70.2.1, 0, u_70.2.2.2).2.1), .int ((u_70.1, u_70.2.1, 0, u_70.2.2.2).2.2.1), .int ((u_70.1, u_70.2.1, 0, u_70.2.2.2).2.2.2)])), (ob, .inl (cZ, 5200, .inl bm.1)), (ok, .inl (cK, 600, .inl km.1))]) [0, 1, 2] (by decide) rfl) hS ls (lv_sub hl [3, 0] rfl)
                  · refine lv_aload_n hx hb dX3_skip_170 rfl (lv_at hl 3 rfl) ?_
                    refine lv_dup hx hb dX3_skip_171 rfl ?_
                    refine va_get (D := (dC, dI)) (ci := 3) (v := .int u_70.2.1) (C := RX3) (T := TX3) (N := 19) hx hb hts inGX3 hown hK hP 0 rfl rfl 16 (by decide) (hts _ wd453) (fun _ h9 => h9) rfl dX3_skip_172 ?_
                    refine lv_iconst (v := 1) hx hb dX3_skip_175 (by decide) ?_
                    refine lv_iadd hx hb dX3_skip_176 ?_
                    refine lv_topi (fun f_72 ef_72 => ?_)
                    refine va_put (D := (dC, dI)) (ci := 3) (v := .int f_72) (ty := .int) (C := RX3) (T := TX3) (N := 19) hx hb hts inGX3 tyX3 tyX3_ok nmX3 hown hK hP hD hS 0 rfl rfl 16 (by decide) (hts _ wd453) (fun _ h9 => h9) rfl (by decide +kernel) rfl rfl (Nat.le_of_ble_eq_true rfl) dX3_skip_177 (fun H locs hP hD hS => ?_)
                    have hP : va_P (dC, dI) vwCl [(om, .inr (3, [.int th, .int st, .int lo, .ref ob, .int bm.2.1, .int bm.2.2.1, .int bm.2.2.2.1, .int bm.2.2.2.2, .ref ok, .int km.2, .int qm.1, .int qm.2.1, .int qm.2.2.1, .int qm.2.2.2, .int bd, .int u_70.1, .int f_72, .int 0, .int u_70.2.2.2])), (ob, .inl (cZ, 5200, .inl bm.1)), (ok, .inl (cK, 600, .inl km.1))] H := hP
                    have hD : va_D A [(om, .inr (3, [.int th, .int st, .int lo, .ref ob, .int bm.2.1, .int bm.2.2.1, .int bm.2.2.2.1, .int bm.2.2.2.2, .ref ok, .int km.2, .int qm.1, .int qm.2.1, .int qm.2.2.1, .int qm.2.2.2, .int bd, .int u_70.1, .int f_72, .int 0, .int u_70.2.2.2])), (ob, .inl (cZ, 5200, .inl bm.1)), (ok, .inl (cK, 600, .inl km.1))] := hD
                    refine lv_aload_n hx hb dX3_skip_180 rfl (lv_at hl 3 rfl) ?_
                    have hPc := hP.sub (ws' := [(om, .inr (3, [.int th, .int st, .int lo, .ref ob, .int bm.2.1, .int bm.2.2.1, .int bm.2.2.2.1, .int bm.2.2.2.2, .ref ok, .int km.2, .int qm.1, .int qm.2.1, .int qm.2.2.1, .int qm.2.2.2, .int bd, .int u_70.1, .int f_72, .int 0, .int u_70.2.2.2])), (ob, .inl (cZ, 5200, .inl bm.1)), (ok, .inl (cK, 600, .inl km.1))]) [0, 1, 2] rfl
                    have hKc := hK.sub (tys' := [(cZ, .boolean), (cK, .int)]) [0, 1] rfl
                    have hDc := hD.sub (ws' := [(om, .inr (3, [.int th, .int st, .int lo, .ref ob, .int bm.2.1, .int bm.2.2.1, .int bm.2.2.2.1, .int bm.2.2.2.2, .ref ok, .int km.2, .int qm.1, .int qm.2.1, .int qm.2.2.1, .int qm.2.2.2, .int bd, .int u_70.1, .int f_72, .int 0, .int u_70.2.2.2])), (ob, .inl (cZ, 5200, .inl bm.1)), (ok, .inl (cK, 600, .inl km.1))]) [0, 1, 2] (by decide) rfl
                    have hFc := va_free (wc := [(om, .inr (3, [.int th, .int st, .int lo, .ref ob, .int bm.2.1, .int bm.2.2.1, .int bm.2.2.2.1, .int bm.2.2.2.2, .ref ok, .int km.2, .int qm.1, .int qm.2.1, .int qm.2.2.1, .int qm.2.2.2, .int bd, .int u_70.1, .int f_72, .int 0, .int u_70.2.2.2])), (ob, .inl (cZ, 5200, .inl bm.1)), (ok, .inl (cK, 600, .inl km.1))]) hD hS hA [0, 1, 2] rfl
                    refine va_callv (va_runV (As := []) (rest := []) ⟨hx, hb, hml, hown, hts⟩ (mX3_goOn l dC dI cZ cK om ob ok H.size st lo th bm km qm bd (u_70.1, f_72, 0, u_70.2.2.2) (sk_tT hf.1 (by first | exact hf.2.1 (Or.inl c_27) | exact hf.2.1 (Or.inr ⟨c_35, c_42⟩)) (by assumption) c_167)) (cwV 0 hts (gV wd572 wd573 wd22 wd30 wd574) rfl rfl rfl (by decide +kernel) ⟨Nat.le_of_ble_eq_true rfl, Nat.le_of_ble_eq_true rfl⟩) ⟨fb_rw, va_recv hKc hPc (ci := 3) (q0 := 0) rfl rfl, pre_rw hPc hKc hDc hZ⟩ rfl rfl hl.1 rfl (lv_room (Nat.le_of_ble_eq_true rfl)) dX3_skip_181 ⟨Nat.le_of_ble_eq_true rfl, Nat.le_of_ble_eq_true rfl⟩) hS (fun q _ h => hFc q h) hFc (fun u_74 t H1 locs ht hvm hw_73 hB hz1 hk1 hS => ?_)
                    obtain ⟨hP1, hD1⟩ := hB
                    rw [ht] at hP1
                    obtain ⟨hP, hD⟩ := va_join (wr := []) (w1 := [(om, .inr (3, [.int th, .int st, .int lo, .ref ob, .int bm.2.1, .int bm.2.2.1, .int bm.2.2.2.1, .int bm.2.2.2.2, .ref ok, .int km.2, .int qm.1, .int qm.2.1, .int qm.2.2.1, .int qm.2.2.2, .int bd, .int u_74.1, .int u_74.2.1, .int u_74.2.2.1, .int u_74.2.2.2])), (ob, .inl (cZ, 5200, .inl bm.1)), (ok, .inl (cK, 600, .inl km.1))]) hP hD [0, 1, 2] [] rfl rfl (by decide) (by decide) hk1 hFc hP1 hD1
                    generalize H1 = H at hP hS ⊢
                    have hP : va_P (dC, dI) vwCl [(om, .inr (3, [.int th, .int st, .int lo, .ref ob, .int bm.2.1, .int bm.2.2.1, .int bm.2.2.2.1, .int bm.2.2.2.2, .ref ok, .int km.2, .int qm.1, .int qm.2.1, .int qm.2.2.1, .int qm.2.2.2, .int bd, .int u_74.1, .int u_74.2.1, .int u_74.2.2.1, .int u_74.2.2.2])), (ob, .inl (cZ, 5200, .inl bm.1)), (ok, .inl (cK, 600, .inl km.1))] H := hP
                    have hD : va_D A [(om, .inr (3, [.int th, .int st, .int lo, .ref ob, .int bm.2.1, .int bm.2.2.1, .int bm.2.2.2.1, .int bm.2.2.2.2, .ref ok, .int km.2, .int qm.1, .int qm.2.1, .int qm.2.2.1, .int qm.2.2.2, .int bd, .int u_74.1, .int u_74.2.1, .int u_74.2.2.1, .int u_74.2.2.2])), (ob, .inl (cZ, 5200, .inl bm.1)), (ok, .inl (cK, 600, .inl km.1))] := hD
                    refine lv_aload_n hx hb dX3_skip_184 rfl (lv_at hl 3 rfl) ?_
                    refine lv_iconst (v := 0) hx hb dX3_skip_185 (by decide) ?_
                    refine va_put (D := (dC, dI)) (ci := 3) (v := .int 0) (ty := .int) (C := RX3) (T := TX3) (N := 19) hx hb hts inGX3 tyX3 tyX3_ok nmX3 hown hK hP hD hS 0 rfl rfl 17 (by decide) (hts _ wd454) (fun _ h9 => h9) rfl (by decide +kernel) rfl rfl (Nat.le_of_ble_eq_true rfl) dX3_skip_186 (fun H locs hP hD hS => ?_)
                    have hP : va_P (dC, dI) vwCl [(om, .inr (3, [.int th, .int st, .int lo, .ref ob, .int bm.2.1, .int bm.2.2.1, .int bm.2.2.2.1, .int bm.2.2.2.2, .ref ok, .int km.2, .int qm.1, .int qm.2.1, .int qm.2.2.1, .int qm.2.2.2, .int bd, .int u_74.1, .int u_74.2.1, .int 0, .int u_74.2.2.2])), (ob, .inl (cZ, 5200, .inl bm.1)), (ok, .inl (cK, 600, .inl km.1))] H := hP
                    have hD : va_D A [(om, .inr (3, [.int th, .int st, .int lo, .ref ob, .int bm.2.1, .int bm.2.2.1, .int bm.2.2.2.1, .int bm.2.2.2.2, .ref ok, .int km.2, .int qm.1, .int qm.2.1, .int qm.2.2.1, .int qm.2.2.2, .int bd, .int u_74.1, .int u_74.2.1, .int 0, .int u_74.2.2.2])), (ob, .inl (cZ, 5200, .inl bm.1)), (ok, .inl (cK, 600, .inl km.1))] := hD
                    refine lv_goto (tgt := 20) hx hb dX3_skip_189 (by decide) ?_
                    exact ih th bm km qm bd (u_74.1, u_74.2.1, 0, u_74.2.2.2) i_71 (hf.2.2 _ _ (ssX3_skip_20_38 st lo th bm km qm bd ym nn c_27 c_35 c_42 c_50 _ hw_68 _ hw_69 _ ei_71 c_125 c_146 c_157 c_167 _ ef_72 _ hw_73)) ((plX3_skip_l20_41 st lo n th bm km qm bd ym nn c_27 c_35 c_42 c_50 _ hw_68 _ hw_69 _ ei_71 c_125 c_146 c_157 c_167 _ ef_72 _ hw_73).trans hz) _ _ (hP.sub (ws' := [(om, .inr (3, [.int th, .int st, .int lo, .ref ob, .int bm.2.1, .int bm.2.2.1, .int bm.2.2.2.1, .int bm.2.2.2.2, .ref ok, .int km.2, .int qm.1, .int qm.2.1, .int qm.2.2.1, .int qm.2.2.2, .int bd, .int ((u_74.1, u_74.2.1, 0, u_74.2.2.2).1), .int ((u_74.1, u_74.2.1, 0, u_74.2.2.2).2.1), .int ((u_74.1, u_74.2.1, 0, u_74.2.2.2).2.2.1), .int ((u_74.1, u_74.2.1, 0, u_74.2.2.2).2.2.2)])), (ob, .inl (cZ, 5200, .inl bm.1)), (ok, .inl (cK, 600, .inl km.1))]) [0, 1, 2] rfl) (hD.sub (ws' := [(om, .inr (3, [.int th, .int st, .int lo, .ref ob, .int bm.2.1, .int bm.2.2.1, .int bm.2.2.2.1, .int bm.2.2.2.2, .ref ok, .int km.2, .int qm.1, .int qm.2.1, .int qm.2.2.1, .int qm.2.2.2, .int bd, .int ((u_74.1, u_74.2.1, 0, u_74.2.2.2).1), .int ((u_74.1, u_74.2.1, 0, u_74.2.2.2).2.1), .int ((u_74.1, u_74.2.1, 0, u_74.2.2.2).2.2.1), .int ((u_74.1, u_74.2.1, 0, u_74.2.2.2).2.2.2)])), (ob, .inl (cZ, 5200, .inl bm.1)), (ok, .inl (cK, 600, .inl km.1))]) [0, 1, 2] (by decide) rfl) hS ls (lv_sub hl [3, 0] rfl)
            · refine lv_aload_n hx hb dX3_skip_128 rfl (lv_at hl 3 rfl) ?_
              refine va_get (D := (dC, dI)) (ci := 3) (v := .int u_70.2.2.1) (C := RX3) (T := TX3) (N := 19) hx hb hts inGX3 hown hK hP 0 rfl rfl 17 (by decide) (hts _ wd454) (fun _ h9 => h9) rfl dX3_skip_129 ?_
              refine lv_iconst (v := 1) hx hb dX3_skip_132 (by decide) ?_
              refine lv_iadd hx hb dX3_skip_133 ?_
              refine lv_goto (tgt := 138) hx hb dX3_skip_134 (by decide) ?_
              refine lv_topi (fun f_75 ef_75 => ?_)
              refine va_put (D := (dC, dI)) (ci := 3) (v := .int f_75) (ty := .int) (C := RX3) (T := TX3) (N := 19) hx hb hts inGX3 tyX3 tyX3_ok nmX3 hown hK hP hD hS 0 rfl rfl 17 (by decide) (hts _ wd454) (fun _ h9 => h9) rfl (by decide +kernel) rfl rfl (Nat.le_of_ble_eq_true rfl) dX3_skip_138 (fun H locs hP hD hS => ?_)
              have hP : va_P (dC, dI) vwCl [(om, .inr (3, [.int th, .int st, .int lo, .ref ob, .int bm.2.1, .int bm.2.2.1, .int bm.2.2.2.1, .int bm.2.2.2.2, .ref ok, .int km.2, .int qm.1, .int qm.2.1, .int qm.2.2.1, .int qm.2.2.2, .int bd, .int u_70.1, .int u_70.2.1, .int f_75, .int u_70.2.2.2])), (ob, .inl (cZ, 5200, .inl bm.1)), (ok, .inl (cK, 600, .inl km.1))] H := hP
              have hD : va_D A [(om, .inr (3, [.int th, .int st, .int lo, .ref ob, .int bm.2.1, .int bm.2.2.1, .int bm.2.2.2.1, .int bm.2.2.2.2, .ref ok, .int km.2, .int qm.1, .int qm.2.1, .int qm.2.2.1, .int qm.2.2.2, .int bd, .int u_70.1, .int u_70.2.1, .int f_75, .int u_70.2.2.2])), (ob, .inl (cZ, 5200, .inl bm.1)), (ok, .inl (cK, 600, .inl km.1))] := hD
              refine lv_aload_n hx hb dX3_skip_141 rfl (lv_at hl 3 rfl) ?_
              refine va_get (D := (dC, dI)) (ci := 3) (v := .int st) (C := RX3) (T := TX3) (N := 19) hx hb hts inGX3 hown hK hP 0 rfl rfl 1 (by decide) (hts _ wd438) (fun _ h9 => h9) rfl dX3_skip_142 ?_
              refine lv_iconst (v := 1) hx hb dX3_skip_145 (by decide) ?_
              refine lv_icmp_le (tgt := 189) hx hb dX3_skip_146 (by decide) (fun c_146 => ?_) (fun c_146 => ?_)
              · refine lv_goto (tgt := 20) hx hb dX3_skip_189 (by decide) ?_
                exact ih th bm km qm bd (u_70.1, u_70.2.1, f_75, u_70.2.2.2) i_71 (hf.2.2 _ _ (ssX3_skip_20_39 st lo th bm km qm bd ym nn c_27 c_35 c_42 c_50 _ hw_68 _ hw_69 _ ei_71 c_125 _ ef_75 c_146)) ((plX3_skip_l20_42 st lo n th bm km qm bd ym nn c_27 c_35 c_42 c_50 _ hw_68 _ hw_69 _ ei_71 c_125 _ ef_75 c_146).trans hz) _ _ (hP.sub (ws' := [(om, .inr (3, [.int th, .int st, .int lo, .ref ob, .int bm.2.1, .int bm.2.2.1, .int bm.2.2.2.1, .int bm.2.2.2.2, .ref ok, .int km.2, .int qm.1, .int qm.2.1, .int qm.2.2.1, .int qm.2.2.2, .int bd, .int ((u_70.1, u_70.2.1, f_75, u_70.2.2.2).1), .int ((u_70.1, u_70.2.1, f_75, u_70.2.2.2).2.1), .int ((u_70.1, u_70.2.1, f_75, u_70.2.2.2).2.2.1), .int ((u_70.1, u_70.2.1, f_75, u_70.2.2.2).2.2.2)])), (ob, .inl (cZ, 5200, .inl bm.1)), (ok, .inl (cK, 600, .inl km.1))]) [0, 1, 2] rfl) (hD.sub (ws' := [(om, .inr (3, [.int th, .int st, .int lo, .ref ob, .int bm.2.1, .int bm.2.2.1, .int bm.2.2.2.1, .int bm.2.2.2.2, .ref ok, .int km.2, .int qm.1, .int qm.2.1, .int qm.2.2.1, .int qm.2.2.2, .int bd, .int ((u_70.1, u_70.2.1, f_75, u_70.2.2.2).1), .int ((u_70.1, u_70.2.1, f_75, u_70.2.2.2).2.1), .int ((u_70.1, u_70.2.1, f_75, u_70.2.2.2).2.2.1), .int ((u_70.1, u_70.2.1, f_75, u_70.2.2.2).2.2.2)])), (ob, .inl (cZ, 5200, .inl bm.1)), (ok, .inl (cK, 600, .inl km.1))]) [0, 1, 2] (by decide) rfl) hS ls (lv_sub hl [3, 0] rfl)
              · refine lv_aload_n hx hb dX3_skip_149 rfl (lv_at hl 3 rfl) ?_
                refine va_get (D := (dC, dI)) (ci := 3) (v := .int f_75) (C := RX3) (T := TX3) (N := 19) hx hb hts inGX3 hown hK hP 0 rfl rfl 17 (by decide) (hts _ wd454) (fun _ h9 => h9) rfl dX3_skip_150 ?_
                refine lv_aload_n hx hb dX3_skip_153 rfl (lv_at hl 3 rfl) ?_
                refine va_get (D := (dC, dI)) (ci := 3) (v := .int st) (C := RX3) (T := TX3) (N := 19) hx hb hts inGX3 hown hK hP 0 rfl rfl 1 (by decide) (hts _ wd438) (fun _ h9 => h9) rfl dX3_skip_154 ?_
                refine lv_icmp_ne (tgt := 189) hx hb dX3_skip_157 (by decide) (fun c_157 => ?_) (fun c_157 => ?_)
                · refine lv_goto (tgt := 20) hx hb dX3_skip_189 (by decide) ?_
                  exact ih th bm km qm bd (u_70.1, u_70.2.1, f_75, u_70.2.2.2) i_71 (hf.2.2 _ _ (ssX3_skip_20_40 st lo th bm km qm bd ym nn c_27 c_35 c_42 c_50 _ hw_68 _ hw_69 _ ei_71 c_125 _ ef_75 c_146 c_157)) ((plX3_skip_l20_43 st lo n th bm km qm bd ym nn c_27 c_35 c_42 c_50 _ hw_68 _ hw_69 _ ei_71 c_125 _ ef_75 c_146 c_157).trans hz) _ _ (hP.sub (ws' := [(om, .inr (3, [.int th, .int st, .int lo, .ref ob, .int bm.2.1, .int bm.2.2.1, .int bm.2.2.2.1, .int bm.2.2.2.2, .ref ok, .int km.2, .int qm.1, .int qm.2.1, .int qm.2.2.1, .int qm.2.2.2, .int bd, .int ((u_70.1, u_70.2.1, f_75, u_70.2.2.2).1), .int ((u_70.1, u_70.2.1, f_75, u_70.2.2.2).2.1), .int ((u_70.1, u_70.2.1, f_75, u_70.2.2.2).2.2.1), .int ((u_70.1, u_70.2.1, f_75, u_70.2.2.2).2.2.2)])), (ob, .inl (cZ, 5200, .inl bm.1)), (ok, .inl (cK, 600, .inl km.1))]) [0, 1, 2] rfl) (hD.sub (ws' := [(om, .inr (3, [.int th, .int st, .int lo, .ref ob, .int bm.2.1, .int bm.2.2.1, .int bm.2.2.2.1, .int bm.2.2.2.2, .ref ok, .int km.2, .int qm.1, .int qm.2.1, .int qm.2.2.1, .int qm.2.2.2, .int bd, .int ((u_70.1, u_70.2.1, f_75, u_70.2.2.2).1), .int ((u_70.1, u_70.2.1, f_75, u_70.2.2.2).2.1), .int ((u_70.1, u_70.2.1, f_75, u_70.2.2.2).2.2.1), .int ((u_70.1, u_70.2.1, f_75, u_70.2.2.2).2.2.2)])), (ob, .inl (cZ, 5200, .inl bm.1)), (ok, .inl (cK, 600, .inl km.1))]) [0, 1, 2] (by decide) rfl) hS ls (lv_sub hl [3, 0] rfl)
                · refine lv_aload_n hx hb dX3_skip_160 rfl (lv_at hl 3 rfl) ?_
                  refine va_get (D := (dC, dI)) (ci := 3) (v := .int u_70.1) (C := RX3) (T := TX3) (N := 19) hx hb hts inGX3 hown hK hP 0 rfl rfl 15 (by decide) (hts _ wd452) (fun _ h9 => h9) rfl dX3_skip_161 ?_
                  refine lv_bipush (v := 8) hx hb dX3_skip_164 (by decide) ?_
                  refine lv_irem hx hb dX3_skip_166 (by decide) ?_
                  refine lv_if_eq (tgt := 189) hx hb dX3_skip_167 (by decide) (fun c_167 => ?_) (fun c_167 => ?_)
                  · refine lv_goto (tgt := 20) hx hb dX3_skip_189 (by decide) ?_
                    exact ih th bm km qm bd (u_70.1, u_70.2.1, f_75, u_70.2.2.2) i_71 (hf.2.2 _ _ (ssX3_skip_20_41 st lo th bm km qm bd ym nn c_27 c_35 c_42 c_50 _ hw_68 _ hw_69 _ ei_71 c_125 _ ef_75 c_146 c_157 c_167)) ((plX3_skip_l20_44 st lo n th bm km qm bd ym nn c_27 c_35 c_42 c_50 _ hw_68 _ hw_69 _ ei_71 c_125 _ ef_75 c_146 c_157 c_167).trans hz) _ _ (hP.sub (ws' := [(om, .inr (3, [.int th, .int st, .int lo, .ref ob, .int bm.2.1, .int bm.2.2.1, .int bm.2.2.2.1, .int bm.2.2.2.2, .ref ok, .int km.2, .int qm.1, .int qm.2.1, .int qm.2.2.1, .int qm.2.2.2, .int bd, .int ((u_70.1, u_70.2.1, f_75, u_70.2.2.2).1), .int ((u_70.1, u_70.2.1, f_75, u_70.2.2.2).2.1), .int ((u_70.1, u_70.2.1, f_75, u_70.2.2.2).2.2.1), .int ((u_70.1, u_70.2.1, f_75, u_70.2.2.2).2.2.2)])), (ob, .inl (cZ, 5200, .inl bm.1)), (ok, .inl (cK, 600, .inl km.1))]) [0, 1, 2] rfl) (hD.sub (ws' := [(om, .inr (3, [.int th, .int st, .int lo, .ref ob, .int bm.2.1, .int bm.2.2.1, .int bm.2.2.2.1, .int bm.2.2.2.2, .ref ok, .int km.2, .int qm.1, .int qm.2.1, .int qm.2.2.1, .int qm.2.2.2, .int bd, .int ((u_70.1, u_70.2.1, f_75, u_70.2.2.2).1), .int ((u_70.1, u_70.2.1, f_75, u_70.2.2.2).2.1), .int ((u_70.1, u_70.2.1, f_75, u_70.2.2.2).2.2.1), .int ((u_70.1, u_70.2.1, f_75, u_70.2.2.2).2.2.2)])), (ob, .inl (cZ, 5200, .inl bm.1)), (ok, .inl (cK, 600, .inl km.1))]) [0, 1, 2] (by decide) rfl) hS ls (lv_sub hl [3, 0] rfl)
                  · refine lv_aload_n hx hb dX3_skip_170 rfl (lv_at hl 3 rfl) ?_
                    refine lv_dup hx hb dX3_skip_171 rfl ?_
                    refine va_get (D := (dC, dI)) (ci := 3) (v := .int u_70.2.1) (C := RX3) (T := TX3) (N := 19) hx hb hts inGX3 hown hK hP 0 rfl rfl 16 (by decide) (hts _ wd453) (fun _ h9 => h9) rfl dX3_skip_172 ?_
                    refine lv_iconst (v := 1) hx hb dX3_skip_175 (by decide) ?_
                    refine lv_iadd hx hb dX3_skip_176 ?_
                    refine lv_topi (fun f_76 ef_76 => ?_)
                    refine va_put (D := (dC, dI)) (ci := 3) (v := .int f_76) (ty := .int) (C := RX3) (T := TX3) (N := 19) hx hb hts inGX3 tyX3 tyX3_ok nmX3 hown hK hP hD hS 0 rfl rfl 16 (by decide) (hts _ wd453) (fun _ h9 => h9) rfl (by decide +kernel) rfl rfl (Nat.le_of_ble_eq_true rfl) dX3_skip_177 (fun H locs hP hD hS => ?_)
                    have hP : va_P (dC, dI) vwCl [(om, .inr (3, [.int th, .int st, .int lo, .ref ob, .int bm.2.1, .int bm.2.2.1, .int bm.2.2.2.1, .int bm.2.2.2.2, .ref ok, .int km.2, .int qm.1, .int qm.2.1, .int qm.2.2.1, .int qm.2.2.2, .int bd, .int u_70.1, .int f_76, .int f_75, .int u_70.2.2.2])), (ob, .inl (cZ, 5200, .inl bm.1)), (ok, .inl (cK, 600, .inl km.1))] H := hP
                    have hD : va_D A [(om, .inr (3, [.int th, .int st, .int lo, .ref ob, .int bm.2.1, .int bm.2.2.1, .int bm.2.2.2.1, .int bm.2.2.2.2, .ref ok, .int km.2, .int qm.1, .int qm.2.1, .int qm.2.2.1, .int qm.2.2.2, .int bd, .int u_70.1, .int f_76, .int f_75, .int u_70.2.2.2])), (ob, .inl (cZ, 5200, .inl bm.1)), (ok, .inl (cK, 600, .inl km.1))] := hD
                    refine lv_aload_n hx hb dX3_skip_180 rfl (lv_at hl 3 rfl) ?_
                    have hPc := hP.sub (ws' := [(om, .inr (3, [.int th, .int st, .int lo, .ref ob, .int bm.2.1, .int bm.2.2.1, .int bm.2.2.2.1, .int bm.2.2.2.2, .ref ok, .int km.2, .int qm.1, .int qm.2.1, .int qm.2.2.1, .int qm.2.2.2, .int bd, .int u_70.1, .int f_76, .int f_75, .int u_70.2.2.2])), (ob, .inl (cZ, 5200, .inl bm.1)), (ok, .inl (cK, 600, .inl km.1))]) [0, 1, 2] rfl
                    have hKc := hK.sub (tys' := [(cZ, .boolean), (cK, .int)]) [0, 1] rfl
                    have hDc := hD.sub (ws' := [(om, .inr (3, [.int th, .int st, .int lo, .ref ob, .int bm.2.1, .int bm.2.2.1, .int bm.2.2.2.1, .int bm.2.2.2.2, .ref ok, .int km.2, .int qm.1, .int qm.2.1, .int qm.2.2.1, .int qm.2.2.2, .int bd, .int u_70.1, .int f_76, .int f_75, .int u_70.2.2.2])), (ob, .inl (cZ, 5200, .inl bm.1)), (ok, .inl (cK, 600, .inl km.1))]) [0, 1, 2] (by decide) rfl
                    have hFc := va_free (wc := [(om, .inr (3, [.int th, .int st, .int lo, .ref ob, .int bm.2.1, .int bm.2.2.1, .int bm.2.2.2.1, .int bm.2.2.2.2, .ref ok, .int km.2, .int qm.1, .int qm.2.1, .int qm.2.2.1, .int qm.2.2.2, .int bd, .int u_70.1, .int f_76, .int f_75, .int u_70.2.2.2])), (ob, .inl (cZ, 5200, .inl bm.1)), (ok, .inl (cK, 600, .inl km.1))]) hD hS hA [0, 1, 2] rfl
                    refine va_callv (va_runV (As := []) (rest := []) ⟨hx, hb, hml, hown, hts⟩ (mX3_goOn l dC dI cZ cK om ob ok H.size st lo th bm km qm bd (u_70.1, f_76, f_75, u_70.2.2.2) (sk_tT hf.1 (by first | exact hf.2.1 (Or.inl c_27) | exact hf.2.1 (Or.inr ⟨c_35, c_42⟩)) (by assumption) c_167)) (cwV 0 hts (gV wd572 wd573 wd22 wd30 wd574) rfl rfl rfl (by decide +kernel) ⟨Nat.le_of_ble_eq_true rfl, Nat.le_of_ble_eq_true rfl⟩) ⟨fb_rw, va_recv hKc hPc (ci := 3) (q0 := 0) rfl rfl, pre_rw hPc hKc hDc hZ⟩ rfl rfl hl.1 rfl (lv_room (Nat.le_of_ble_eq_true rfl)) dX3_skip_181 ⟨Nat.le_of_ble_eq_true rfl, Nat.le_of_ble_eq_true rfl⟩) hS (fun q _ h => hFc q h) hFc (fun u_78 t H1 locs ht hvm hw_77 hB hz1 hk1 hS => ?_)
                    obtain ⟨hP1, hD1⟩ := hB
                    rw [ht] at hP1
                    obtain ⟨hP, hD⟩ := va_join (wr := []) (w1 := [(om, .inr (3, [.int th, .int st, .int lo, .ref ob, .int bm.2.1, .int bm.2.2.1, .int bm.2.2.2.1, .int bm.2.2.2.2, .ref ok, .int km.2, .int qm.1, .int qm.2.1, .int qm.2.2.1, .int qm.2.2.2, .int bd, .int u_78.1, .int u_78.2.1, .int u_78.2.2.1, .int u_78.2.2.2])), (ob, .inl (cZ, 5200, .inl bm.1)), (ok, .inl (cK, 600, .inl km.1))]) hP hD [0, 1, 2] [] rfl rfl (by decide) (by decide) hk1 hFc hP1 hD1
                    generalize H1 = H at hP hS ⊢
                    have hP : va_P (dC, dI) vwCl [(om, .inr (3, [.int th, .int st, .int lo, .ref ob, .int bm.2.1, .int bm.2.2.1, .int bm.2.2.2.1, .int bm.2.2.2.2, .ref ok, .int km.2, .int qm.1, .int qm.2.1, .int qm.2.2.1, .int qm.2.2.2, .int bd, .int u_78.1, .int u_78.2.1, .int u_78.2.2.1, .int u_78.2.2.2])), (ob, .inl (cZ, 5200, .inl bm.1)), (ok, .inl (cK, 600, .inl km.1))] H := hP
                    have hD : va_D A [(om, .inr (3, [.int th, .int st, .int lo, .ref ob, .int bm.2.1, .int bm.2.2.1, .int bm.2.2.2.1, .int bm.2.2.2.2, .ref ok, .int km.2, .int qm.1, .int qm.2.1, .int qm.2.2.1, .int qm.2.2.2, .int bd, .int u_78.1, .int u_78.2.1, .int u_78.2.2.1, .int u_78.2.2.2])), (ob, .inl (cZ, 5200, .inl bm.1)), (ok, .inl (cK, 600, .inl km.1))] := hD
                    refine lv_aload_n hx hb dX3_skip_184 rfl (lv_at hl 3 rfl) ?_
                    refine lv_iconst (v := 0) hx hb dX3_skip_185 (by decide) ?_
                    refine va_put (D := (dC, dI)) (ci := 3) (v := .int 0) (ty := .int) (C := RX3) (T := TX3) (N := 19) hx hb hts inGX3 tyX3 tyX3_ok nmX3 hown hK hP hD hS 0 rfl rfl 17 (by decide) (hts _ wd454) (fun _ h9 => h9) rfl (by decide +kernel) rfl rfl (Nat.le_of_ble_eq_true rfl) dX3_skip_186 (fun H locs hP hD hS => ?_)
                    have hP : va_P (dC, dI) vwCl [(om, .inr (3, [.int th, .int st, .int lo, .ref ob, .int bm.2.1, .int bm.2.2.1, .int bm.2.2.2.1, .int bm.2.2.2.2, .ref ok, .int km.2, .int qm.1, .int qm.2.1, .int qm.2.2.1, .int qm.2.2.2, .int bd, .int u_78.1, .int u_78.2.1, .int 0, .int u_78.2.2.2])), (ob, .inl (cZ, 5200, .inl bm.1)), (ok, .inl (cK, 600, .inl km.1))] H := hP
                    have hD : va_D A [(om, .inr (3, [.int th, .int st, .int lo, .ref ob, .int bm.2.1, .int bm.2.2.1, .int bm.2.2.2.1, .int bm.2.2.2.2, .ref ok, .int km.2, .int qm.1, .int qm.2.1, .int qm.2.2.1, .int qm.2.2.2, .int bd, .int u_78.1, .int u_78.2.1, .int 0, .int u_78.2.2.2])), (ob, .inl (cZ, 5200, .inl bm.1)), (ok, .inl (cK, 600, .inl km.1))] := hD
                    refine lv_goto (tgt := 20) hx hb dX3_skip_189 (by decide) ?_
                    exact ih th bm km qm bd (u_78.1, u_78.2.1, 0, u_78.2.2.2) i_71 (hf.2.2 _ _ (ssX3_skip_20_42 st lo th bm km qm bd ym nn c_27 c_35 c_42 c_50 _ hw_68 _ hw_69 _ ei_71 c_125 _ ef_75 c_146 c_157 c_167 _ ef_76 _ hw_77)) ((plX3_skip_l20_45 st lo n th bm km qm bd ym nn c_27 c_35 c_42 c_50 _ hw_68 _ hw_69 _ ei_71 c_125 _ ef_75 c_146 c_157 c_167 _ ef_76 _ hw_77).trans hz) _ _ (hP.sub (ws' := [(om, .inr (3, [.int th, .int st, .int lo, .ref ob, .int bm.2.1, .int bm.2.2.1, .int bm.2.2.2.1, .int bm.2.2.2.2, .ref ok, .int km.2, .int qm.1, .int qm.2.1, .int qm.2.2.1, .int qm.2.2.2, .int bd, .int ((u_78.1, u_78.2.1, 0, u_78.2.2.2).1), .int ((u_78.1, u_78.2.1, 0, u_78.2.2.2).2.1), .int ((u_78.1, u_78.2.1, 0, u_78.2.2.2).2.2.1), .int ((u_78.1, u_78.2.1, 0, u_78.2.2.2).2.2.2)])), (ob, .inl (cZ, 5200, .inl bm.1)), (ok, .inl (cK, 600, .inl km.1))]) [0, 1, 2] rfl) (hD.sub (ws' := [(om, .inr (3, [.int th, .int st, .int lo, .ref ob, .int bm.2.1, .int bm.2.2.1, .int bm.2.2.2.1, .int bm.2.2.2.2, .ref ok, .int km.2, .int qm.1, .int qm.2.1, .int qm.2.2.1, .int qm.2.2.2, .int bd, .int ((u_78.1, u_78.2.1, 0, u_78.2.2.2).1), .int ((u_78.1, u_78.2.1, 0, u_78.2.2.2).2.1), .int ((u_78.1, u_78.2.1, 0, u_78.2.2.2).2.2.1), .int ((u_78.1, u_78.2.1, 0, u_78.2.2.2).2.2.2)])), (ob, .inl (cZ, 5200, .inl bm.1)), (ok, .inl (cK, 600, .inl km.1))]) [0, 1, 2] (by decide) rfl) hS ls (lv_sub hl [3, 0] rfl)
          · refine lv_aload_n hx hb dX3_skip_53 rfl (lv_at hl 0 rfl) ?_
            refine va_get (D := (dC, dI)) (ci := 3) (v := .int ym.2.2.2) (C := RX3) (T := TX3) (N := 19) hx hb hts inGX3 hown hK hP 0 rfl rfl 18 (by decide) (hts _ wd455) (fun _ h9 => h9) rfl dX3_skip_54 ?_
            refine lv_if_eq (tgt := 87) hx hb dX3_skip_57 (by decide) (fun c_57 => ?_) (fun c_57 => ?_)
            · refine lv_iconst (v := 0) hx hb dX3_skip_87 (by decide) ?_
              refine lv_istore_n (lv' := [(2, .int 0), (0, .ref om), (1, .int nn)]) hx hb dX3_skip_88 rfl hl (by decide) rfl (fun ls hl => ?_)
              refine lv_aload_n hx hb dX3_skip_89 rfl (lv_at hl 1 rfl) ?_
              refine lv_aload_n hx hb dX3_skip_90 rfl (lv_at hl 1 rfl) ?_
              refine va_get (D := (dC, dI)) (ci := 3) (v := .int ym.1) (C := RX3) (T := TX3) (N := 19) hx hb hts inGX3 hown hK hP 0 rfl rfl 15 (by decide) (hts _ wd452) (fun _ h9 => h9) rfl dX3_skip_91 ?_
              have hPc := hP.sub (ws' := [(om, .inr (3, [.int th, .int st, .int lo, .ref ob, .int bm.2.1, .int bm.2.2.1, .int bm.2.2.2.1, .int bm.2.2.2.2, .ref ok, .int km.2, .int qm.1, .int qm.2.1, .int qm.2.2.1, .int qm.2.2.2, .int bd, .int ym.1, .int ym.2.1, .int ym.2.2.1, .int ym.2.2.2])), (ob, .inl (cZ, 5200, .inl bm.1)), (ok, .inl (cK, 600, .inl km.1))]) [0, 1, 2] rfl
              have hKc := hK.sub (tys' := [(cZ, .boolean), (cK, .int)]) [0, 1] rfl
              refine vp_callSi (va_Run.run (va_runV (As := [.int ym.1]) (rest := []) ⟨hx, hb, hml, hown, hts⟩ (mX3_bitAt l dC dI cZ cK om ob ok st lo th bm km qm bd ym ym.1 (t_in (by first | exact hf.2.1 (Or.inl c_27) | exact hf.2.1 (Or.inr ⟨c_35, c_42⟩)))) (cwV 1 hts (gV wd569 wd570 wd21 wd30 wd571) rfl rfl rfl (by decide +kernel) ⟨Nat.le_of_ble_eq_true rfl, Nat.le_of_ble_eq_true rfl⟩) ⟨fb_ro, va_recv hKc hPc (ci := 3) (q0 := 0) rfl rfl, pre_ro hPc hKc hZ⟩ rfl rfl hl.1 rfl (lv_room (Nat.le_of_ble_eq_true rfl)) dX3_skip_94 ⟨Nat.le_of_ble_eq_true rfl, Nat.le_of_ble_eq_true rfl⟩)) (fun r_79 hw_80 => ?_)
              refine lv_istore_n (lv' := [(3, .int r_79), (2, .int 0), (0, .ref om), (1, .int nn)]) hx hb dX3_skip_97 rfl hl (by decide) rfl (fun ls hl => ?_)
              refine lv_aload_n hx hb dX3_skip_98 rfl (lv_at hl 2 rfl) ?_
              have hPc := hP.sub (ws' := [(om, .inr (3, [.int th, .int st, .int lo, .ref ob, .int bm.2.1, .int bm.2.2.1, .int bm.2.2.2.1, .int bm.2.2.2.2, .ref ok, .int km.2, .int qm.1, .int qm.2.1, .int qm.2.2.1, .int qm.2.2.2, .int bd, .int ym.1, .int ym.2.1, .int ym.2.2.1, .int ym.2.2.2])), (ob, .inl (cZ, 5200, .inl bm.1)), (ok, .inl (cK, 600, .inl km.1))]) [0, 1, 2] rfl
              have hKc := hK.sub (tys' := [(cZ, .boolean), (cK, .int)]) [0, 1] rfl
              have hDc := hD.sub (ws' := [(om, .inr (3, [.int th, .int st, .int lo, .ref ob, .int bm.2.1, .int bm.2.2.1, .int bm.2.2.2.1, .int bm.2.2.2.2, .ref ok, .int km.2, .int qm.1, .int qm.2.1, .int qm.2.2.1, .int qm.2.2.2, .int bd, .int ym.1, .int ym.2.1, .int ym.2.2.1, .int ym.2.2.2])), (ob, .inl (cZ, 5200, .inl bm.1)), (ok, .inl (cK, 600, .inl km.1))]) [0, 1, 2] (by decide) rfl
              have hFc := va_free (wc := [(om, .inr (3, [.int th, .int st, .int lo, .ref ob, .int bm.2.1, .int bm.2.2.1, .int bm.2.2.2.1, .int bm.2.2.2.2, .ref ok, .int km.2, .int qm.1, .int qm.2.1, .int qm.2.2.1, .int qm.2.2.2, .int bd, .int ym.1, .int ym.2.1, .int ym.2.2.1, .int ym.2.2.2])), (ob, .inl (cZ, 5200, .inl bm.1)), (ok, .inl (cK, 600, .inl km.1))]) hD hS hA [0, 1, 2] rfl
              refine va_callv (va_runV (As := []) (rest := []) ⟨hx, hb, hml, hown, hts⟩ (mX3_goOn l dC dI cZ cK om ob ok H.size st lo th bm km qm bd ym (by first | exact hf.2.1 (Or.inl c_27) | exact hf.2.1 (Or.inr ⟨c_35, c_42⟩))) (cwV 0 hts (gV wd572 wd573 wd22 wd30 wd574) rfl rfl rfl (by decide +kernel) ⟨Nat.le_of_ble_eq_true rfl, Nat.le_of_ble_eq_true rfl⟩) ⟨fb_rw, va_recv hKc hPc (ci := 3) (q0 := 0) rfl rfl, pre_rw hPc hKc hDc hZ⟩ rfl rfl hl.1 rfl (lv_room (Nat.le_of_ble_eq_true rfl)) dX3_skip_99 ⟨Nat.le_of_ble_eq_true rfl, Nat.le_of_ble_eq_true rfl⟩) hS (fun q _ h => hFc q h) hFc (fun u_82 t H1 locs ht hvm hw_81 hB hz1 hk1 hS => ?_)
              obtain ⟨hP1, hD1⟩ := hB
              rw [ht] at hP1
              obtain ⟨hP, hD⟩ := va_join (wr := []) (w1 := [(om, .inr (3, [.int th, .int st, .int lo, .ref ob, .int bm.2.1, .int bm.2.2.1, .int bm.2.2.2.1, .int bm.2.2.2.2, .ref ok, .int km.2, .int qm.1, .int qm.2.1, .int qm.2.2.1, .int qm.2.2.2, .int bd, .int u_82.1, .int u_82.2.1, .int u_82.2.2.1, .int u_82.2.2.2])), (ob, .inl (cZ, 5200, .inl bm.1)), (ok, .inl (cK, 600, .inl km.1))]) hP hD [0, 1, 2] [] rfl rfl (by decide) (by decide) hk1 hFc hP1 hD1
              generalize H1 = H at hP hS ⊢
              have hP : va_P (dC, dI) vwCl [(om, .inr (3, [.int th, .int st, .int lo, .ref ob, .int bm.2.1, .int bm.2.2.1, .int bm.2.2.2.1, .int bm.2.2.2.2, .ref ok, .int km.2, .int qm.1, .int qm.2.1, .int qm.2.2.1, .int qm.2.2.2, .int bd, .int u_82.1, .int u_82.2.1, .int u_82.2.2.1, .int u_82.2.2.2])), (ob, .inl (cZ, 5200, .inl bm.1)), (ok, .inl (cK, 600, .inl km.1))] H := hP
              have hD : va_D A [(om, .inr (3, [.int th, .int st, .int lo, .ref ob, .int bm.2.1, .int bm.2.2.1, .int bm.2.2.2.1, .int bm.2.2.2.2, .ref ok, .int km.2, .int qm.1, .int qm.2.1, .int qm.2.2.1, .int qm.2.2.2, .int bd, .int u_82.1, .int u_82.2.1, .int u_82.2.2.1, .int u_82.2.2.2])), (ob, .inl (cZ, 5200, .inl bm.1)), (ok, .inl (cK, 600, .inl km.1))] := hD
              refine lv_iload_n hx hb dX3_skip_102 rfl (lv_at hl 1 rfl) ?_
              refine lv_if_eq (tgt := 119) hx hb dX3_skip_103 (by decide) (fun c_103 => ?_) (fun c_103 => absurd c_103 (by decide))
              obtain ⟨i_83, ei_83⟩ : ∃ y : Int32, y = nn + 1 := ⟨_, rfl⟩
              refine lv_iinc (v := i_83) (lv' := [(1, .int i_83), (3, .int r_79), (2, .int 0), (0, .ref om)]) hx hb dX3_skip_119 hl (k := 3) rfl (by rw [ei_83]; rfl) (by decide) rfl (fun ls hl => ?_)
              refine lv_aload_n hx hb dX3_skip_122 rfl (lv_at hl 3 rfl) ?_
              refine lv_iload_n hx hb dX3_skip_123 rfl (lv_at hl 1 rfl) ?_
              refine lv_iconst (v := 1) hx hb dX3_skip_124 (by decide) ?_
              refine lv_icmp_ne (tgt := 137) hx hb dX3_skip_125 (by decide) (fun c_125 => ?_) (fun c_125 => ?_)
              · refine lv_iconst (v := 0) hx hb dX3_skip_137 (by decide) ?_
                refine va_put (D := (dC, dI)) (ci := 3) (v := .int 0) (ty := .int) (C := RX3) (T := TX3) (N := 19) hx hb hts inGX3 tyX3 tyX3_ok nmX3 hown hK hP hD hS 0 rfl rfl 17 (by decide) (hts _ wd454) (fun _ h9 => h9) rfl (by decide +kernel) rfl rfl (Nat.le_of_ble_eq_true rfl) dX3_skip_138 (fun H locs hP hD hS => ?_)
                have hP : va_P (dC, dI) vwCl [(om, .inr (3, [.int th, .int st, .int lo, .ref ob, .int bm.2.1, .int bm.2.2.1, .int bm.2.2.2.1, .int bm.2.2.2.2, .ref ok, .int km.2, .int qm.1, .int qm.2.1, .int qm.2.2.1, .int qm.2.2.2, .int bd, .int u_82.1, .int u_82.2.1, .int 0, .int u_82.2.2.2])), (ob, .inl (cZ, 5200, .inl bm.1)), (ok, .inl (cK, 600, .inl km.1))] H := hP
                have hD : va_D A [(om, .inr (3, [.int th, .int st, .int lo, .ref ob, .int bm.2.1, .int bm.2.2.1, .int bm.2.2.2.1, .int bm.2.2.2.2, .ref ok, .int km.2, .int qm.1, .int qm.2.1, .int qm.2.2.1, .int qm.2.2.2, .int bd, .int u_82.1, .int u_82.2.1, .int 0, .int u_82.2.2.2])), (ob, .inl (cZ, 5200, .inl bm.1)), (ok, .inl (cK, 600, .inl km.1))] := hD
                refine lv_aload_n hx hb dX3_skip_141 rfl (lv_at hl 3 rfl) ?_
                refine va_get (D := (dC, dI)) (ci := 3) (v := .int st) (C := RX3) (T := TX3) (N := 19) hx hb hts inGX3 hown hK hP 0 rfl rfl 1 (by decide) (hts _ wd438) (fun _ h9 => h9) rfl dX3_skip_142 ?_
                refine lv_iconst (v := 1) hx hb dX3_skip_145 (by decide) ?_
                refine lv_icmp_le (tgt := 189) hx hb dX3_skip_146 (by decide) (fun c_146 => ?_) (fun c_146 => ?_)
                · refine lv_goto (tgt := 20) hx hb dX3_skip_189 (by decide) ?_
                  exact ih th bm km qm bd (u_82.1, u_82.2.1, 0, u_82.2.2.2) i_83 (hf.2.2 _ _ (ssX3_skip_20_43 st lo th bm km qm bd ym nn c_27 c_35 c_42 c_50 c_57 _ hw_80 _ hw_81 _ ei_83 c_125 c_146)) ((plX3_skip_l20_46 st lo n th bm km qm bd ym nn c_27 c_35 c_42 c_50 c_57 _ hw_80 _ hw_81 _ ei_83 c_125 c_146).trans hz) _ _ (hP.sub (ws' := [(om, .inr (3, [.int th, .int st, .int lo, .ref ob, .int bm.2.1, .int bm.2.2.1, .int bm.2.2.2.1, .int bm.2.2.2.2, .ref ok, .int km.2, .int qm.1, .int qm.2.1, .int qm.2.2.1, .int qm.2.2.2, .int bd, .int ((u_82.1, u_82.2.1, 0, u_82.2.2.2).1), .int ((u_82.1, u_82.2.1, 0, u_82.2.2.2).2.1), .int ((u_82.1, u_82.2.1, 0, u_82.2.2.2).2.2.1), .int ((u_82.1, u_82.2.1, 0, u_82.2.2.2).2.2.2)])), (ob, .inl (cZ, 5200, .inl bm.1)), (ok, .inl (cK, 600, .inl km.1))]) [0, 1, 2] rfl) (hD.sub (ws' := [(om, .inr (3, [.int th, .int st, .int lo, .ref ob, .int bm.2.1, .int bm.2.2.1, .int bm.2.2.2.1, .int bm.2.2.2.2, .ref ok, .int km.2, .int qm.1, .int qm.2.1, .int qm.2.2.1, .int qm.2.2.2, .int bd, .int ((u_82.1, u_82.2.1, 0, u_82.2.2.2).1), .int ((u_82.1, u_82.2.1, 0, u_82.2.2.2).2.1), .int ((u_82.1, u_82.2.1, 0, u_82.2.2.2).2.2.1), .int ((u_82.1, u_82.2.1, 0, u_82.2.2.2).2.2.2)])), (ob, .inl (cZ, 5200, .inl bm.1)), (ok, .inl (cK, 600, .inl km.1))]) [0, 1, 2] (by decide) rfl) hS ls (lv_sub hl [3, 0] rfl)
                · refine lv_aload_n hx hb dX3_skip_149 rfl (lv_at hl 3 rfl) ?_
                  refine va_get (D := (dC, dI)) (ci := 3) (v := .int 0) (C := RX3) (T := TX3) (N := 19) hx hb hts inGX3 hown hK hP 0 rfl rfl 17 (by decide) (hts _ wd454) (fun _ h9 => h9) rfl dX3_skip_150 ?_
                  refine lv_aload_n hx hb dX3_skip_153 rfl (lv_at hl 3 rfl) ?_
                  refine va_get (D := (dC, dI)) (ci := 3) (v := .int st) (C := RX3) (T := TX3) (N := 19) hx hb hts inGX3 hown hK hP 0 rfl rfl 1 (by decide) (hts _ wd438) (fun _ h9 => h9) rfl dX3_skip_154 ?_
                  refine lv_icmp_ne (tgt := 189) hx hb dX3_skip_157 (by decide) (fun c_157 => ?_) (fun c_157 => ?_)
                  · refine lv_goto (tgt := 20) hx hb dX3_skip_189 (by decide) ?_
                    exact ih th bm km qm bd (u_82.1, u_82.2.1, 0, u_82.2.2.2) i_83 (hf.2.2 _ _ (ssX3_skip_20_44 st lo th bm km qm bd ym nn c_27 c_35 c_42 c_50 c_57 _ hw_80 _ hw_81 _ ei_83 c_125 c_146 c_157)) ((plX3_skip_l20_47 st lo n th bm km qm bd ym nn c_27 c_35 c_42 c_50 c_57 _ hw_80 _ hw_81 _ ei_83 c_125 c_146 c_157).trans hz) _ _ (hP.sub (ws' := [(om, .inr (3, [.int th, .int st, .int lo, .ref ob, .int bm.2.1, .int bm.2.2.1, .int bm.2.2.2.1, .int bm.2.2.2.2, .ref ok, .int km.2, .int qm.1, .int qm.2.1, .int qm.2.2.1, .int qm.2.2.2, .int bd, .int ((u_82.1, u_82.2.1, 0, u_82.2.2.2).1), .int ((u_82.1, u_82.2.1, 0, u_82.2.2.2).2.1), .int ((u_82.1, u_82.2.1, 0, u_82.2.2.2).2.2.1), .int ((u_82.1, u_82.2.1, 0, u_82.2.2.2).2.2.2)])), (ob, .inl (cZ, 5200, .inl bm.1)), (ok, .inl (cK, 600, .inl km.1))]) [0, 1, 2] rfl) (hD.sub (ws' := [(om, .inr (3, [.int th, .int st, .int lo, .ref ob, .int bm.2.1, .int bm.2.2.1, .int bm.2.2.2.1, .int bm.2.2.2.2, .ref ok, .int km.2, .int qm.1, .int qm.2.1, .int qm.2.2.1, .int qm.2.2.2, .int bd, .int ((u_82.1, u_82.2.1, 0, u_82.2.2.2).1), .int ((u_82.1, u_82.2.1, 0, u_82.2.2.2).2.1), .int ((u_82.1, u_82.2.1, 0, u_82.2.2.2).2.2.1), .int ((u_82.1, u_82.2.1, 0, u_82.2.2.2).2.2.2)])), (ob, .inl (cZ, 5200, .inl bm.1)), (ok, .inl (cK, 600, .inl km.1))]) [0, 1, 2] (by decide) rfl) hS ls (lv_sub hl [3, 0] rfl)
                  · refine lv_aload_n hx hb dX3_skip_160 rfl (lv_at hl 3 rfl) ?_
                    refine va_get (D := (dC, dI)) (ci := 3) (v := .int u_82.1) (C := RX3) (T := TX3) (N := 19) hx hb hts inGX3 hown hK hP 0 rfl rfl 15 (by decide) (hts _ wd452) (fun _ h9 => h9) rfl dX3_skip_161 ?_
                    refine lv_bipush (v := 8) hx hb dX3_skip_164 (by decide) ?_
                    refine lv_irem hx hb dX3_skip_166 (by decide) ?_
                    refine lv_if_eq (tgt := 189) hx hb dX3_skip_167 (by decide) (fun c_167 => ?_) (fun c_167 => ?_)
                    · refine lv_goto (tgt := 20) hx hb dX3_skip_189 (by decide) ?_
                      exact ih th bm km qm bd (u_82.1, u_82.2.1, 0, u_82.2.2.2) i_83 (hf.2.2 _ _ (ssX3_skip_20_45 st lo th bm km qm bd ym nn c_27 c_35 c_42 c_50 c_57 _ hw_80 _ hw_81 _ ei_83 c_125 c_146 c_157 c_167)) ((plX3_skip_l20_48 st lo n th bm km qm bd ym nn c_27 c_35 c_42 c_50 c_57 _ hw_80 _ hw_81 _ ei_83 c_125 c_146 c_157 c_167).trans hz) _ _ (hP.sub (ws' := [(om, .inr (3, [.int th, .int st, .int lo, .ref ob, .int bm.2.1, .int bm.2.2.1, .int bm.2.2.2.1, .int bm.2.2.2.2, .ref ok, .int km.2, .int qm.1, .int qm.2.1, .int qm.2.2.1, .int qm.2.2.2, .int bd, .int ((u_82.1, u_82.2.1, 0, u_82.2.2.2).1), .int ((u_82.1, u_82.2.1, 0, u_82.2.2.2).2.1), .int ((u_82.1, u_82.2.1, 0, u_82.2.2.2).2.2.1), .int ((u_82.1, u_82.2.1, 0, u_82.2.2.2).2.2.2)])), (ob, .inl (cZ, 5200, .inl bm.1)), (ok, .inl (cK, 600, .inl km.1))]) [0, 1, 2] rfl) (hD.sub (ws' := [(om, .inr (3, [.int th, .int st, .int lo, .ref ob, .int bm.2.1, .int bm.2.2.1, .int bm.2.2.2.1, .int bm.2.2.2.2, .ref ok, .int km.2, .int qm.1, .int qm.2.1, .int qm.2.2.1, .int qm.2.2.2, .int bd, .int ((u_82.1, u_82.2.1, 0, u_82.2.2.2).1), .int ((u_82.1, u_82.2.1, 0, u_82.2.2.2).2.1), .int ((u_82.1, u_82.2.1, 0, u_82.2.2.2).2.2.1), .int ((u_82.1, u_82.2.1, 0, u_82.2.2.2).2.2.2)])), (ob, .inl (cZ, 5200, .inl bm.1)), (ok, .inl (cK, 600, .inl km.1))]) [0, 1, 2] (by decide) rfl) hS ls (lv_sub hl [3, 0] rfl)
                    · refine lv_aload_n hx hb dX3_skip_170 rfl (lv_at hl 3 rfl) ?_
                      refine lv_dup hx hb dX3_skip_171 rfl ?_
                      refine va_get (D := (dC, dI)) (ci := 3) (v := .int u_82.2.1) (C := RX3) (T := TX3) (N := 19) hx hb hts inGX3 hown hK hP 0 rfl rfl 16 (by decide) (hts _ wd453) (fun _ h9 => h9) rfl dX3_skip_172 ?_
                      refine lv_iconst (v := 1) hx hb dX3_skip_175 (by decide) ?_
                      refine lv_iadd hx hb dX3_skip_176 ?_
                      refine lv_topi (fun f_84 ef_84 => ?_)
                      refine va_put (D := (dC, dI)) (ci := 3) (v := .int f_84) (ty := .int) (C := RX3) (T := TX3) (N := 19) hx hb hts inGX3 tyX3 tyX3_ok nmX3 hown hK hP hD hS 0 rfl rfl 16 (by decide) (hts _ wd453) (fun _ h9 => h9) rfl (by decide +kernel) rfl rfl (Nat.le_of_ble_eq_true rfl) dX3_skip_177 (fun H locs hP hD hS => ?_)
                      have hP : va_P (dC, dI) vwCl [(om, .inr (3, [.int th, .int st, .int lo, .ref ob, .int bm.2.1, .int bm.2.2.1, .int bm.2.2.2.1, .int bm.2.2.2.2, .ref ok, .int km.2, .int qm.1, .int qm.2.1, .int qm.2.2.1, .int qm.2.2.2, .int bd, .int u_82.1, .int f_84, .int 0, .int u_82.2.2.2])), (ob, .inl (cZ, 5200, .inl bm.1)), (ok, .inl (cK, 600, .inl km.1))] H := hP
                      have hD : va_D A [(om, .inr (3, [.int th, .int st, .int lo, .ref ob, .int bm.2.1, .int bm.2.2.1, .int bm.2.2.2.1, .int bm.2.2.2.2, .ref ok, .int km.2, .int qm.1, .int qm.2.1, .int qm.2.2.1, .int qm.2.2.2, .int bd, .int u_82.1, .int f_84, .int 0, .int u_82.2.2.2])), (ob, .inl (cZ, 5200, .inl bm.1)), (ok, .inl (cK, 600, .inl km.1))] := hD
                      refine lv_aload_n hx hb dX3_skip_180 rfl (lv_at hl 3 rfl) ?_
                      have hPc := hP.sub (ws' := [(om, .inr (3, [.int th, .int st, .int lo, .ref ob, .int bm.2.1, .int bm.2.2.1, .int bm.2.2.2.1, .int bm.2.2.2.2, .ref ok, .int km.2, .int qm.1, .int qm.2.1, .int qm.2.2.1, .int qm.2.2.2, .int bd, .int u_82.1, .int f_84, .int 0, .int u_82.2.2.2])), (ob, .inl (cZ, 5200, .inl bm.1)), (ok, .inl (cK, 600, .inl km.1))]) [0, 1, 2] rfl
                      have hKc := hK.sub (tys' := [(cZ, .boolean), (cK, .int)]) [0, 1] rfl
                      have hDc := hD.sub (ws' := [(om, .inr (3, [.int th, .int st, .int lo, .ref ob, .int bm.2.1, .int bm.2.2.1, .int bm.2.2.2.1, .int bm.2.2.2.2, .ref ok, .int km.2, .int qm.1, .int qm.2.1, .int qm.2.2.1, .int qm.2.2.2, .int bd, .int u_82.1, .int f_84, .int 0, .int u_82.2.2.2])), (ob, .inl (cZ, 5200, .inl bm.1)), (ok, .inl (cK, 600, .inl km.1))]) [0, 1, 2] (by decide) rfl
                      have hFc := va_free (wc := [(om, .inr (3, [.int th, .int st, .int lo, .ref ob, .int bm.2.1, .int bm.2.2.1, .int bm.2.2.2.1, .int bm.2.2.2.2, .ref ok, .int km.2, .int qm.1, .int qm.2.1, .int qm.2.2.1, .int qm.2.2.2, .int bd, .int u_82.1, .int f_84, .int 0, .int u_82.2.2.2])), (ob, .inl (cZ, 5200, .inl bm.1)), (ok, .inl (cK, 600, .inl km.1))]) hD hS hA [0, 1, 2] rfl
                      refine va_callv (va_runV (As := []) (rest := []) ⟨hx, hb, hml, hown, hts⟩ (mX3_goOn l dC dI cZ cK om ob ok H.size st lo th bm km qm bd (u_82.1, f_84, 0, u_82.2.2.2) (sk_tT hf.1 (by first | exact hf.2.1 (Or.inl c_27) | exact hf.2.1 (Or.inr ⟨c_35, c_42⟩)) (by assumption) c_167)) (cwV 0 hts (gV wd572 wd573 wd22 wd30 wd574) rfl rfl rfl (by decide +kernel) ⟨Nat.le_of_ble_eq_true rfl, Nat.le_of_ble_eq_true rfl⟩) ⟨fb_rw, va_recv hKc hPc (ci := 3) (q0 := 0) rfl rfl, pre_rw hPc hKc hDc hZ⟩ rfl rfl hl.1 rfl (lv_room (Nat.le_of_ble_eq_true rfl)) dX3_skip_181 ⟨Nat.le_of_ble_eq_true rfl, Nat.le_of_ble_eq_true rfl⟩) hS (fun q _ h => hFc q h) hFc (fun u_86 t H1 locs ht hvm hw_85 hB hz1 hk1 hS => ?_)
                      obtain ⟨hP1, hD1⟩ := hB
                      rw [ht] at hP1
                      obtain ⟨hP, hD⟩ := va_join (wr := []) (w1 := [(om, .inr (3, [.int th, .int st, .int lo, .ref ob, .int bm.2.1, .int bm.2.2.1, .int bm.2.2.2.1, .int bm.2.2.2.2, .ref ok, .int km.2, .int qm.1, .int qm.2.1, .int qm.2.2.1, .int qm.2.2.2, .int bd, .int u_86.1, .int u_86.2.1, .int u_86.2.2.1, .int u_86.2.2.2])), (ob, .inl (cZ, 5200, .inl bm.1)), (ok, .inl (cK, 600, .inl km.1))]) hP hD [0, 1, 2] [] rfl rfl (by decide) (by decide) hk1 hFc hP1 hD1
                      generalize H1 = H at hP hS ⊢
                      have hP : va_P (dC, dI) vwCl [(om, .inr (3, [.int th, .int st, .int lo, .ref ob, .int bm.2.1, .int bm.2.2.1, .int bm.2.2.2.1, .int bm.2.2.2.2, .ref ok, .int km.2, .int qm.1, .int qm.2.1, .int qm.2.2.1, .int qm.2.2.2, .int bd, .int u_86.1, .int u_86.2.1, .int u_86.2.2.1, .int u_86.2.2.2])), (ob, .inl (cZ, 5200, .inl bm.1)), (ok, .inl (cK, 600, .inl km.1))] H := hP
                      have hD : va_D A [(om, .inr (3, [.int th, .int st, .int lo, .ref ob, .int bm.2.1, .int bm.2.2.1, .int bm.2.2.2.1, .int bm.2.2.2.2, .ref ok, .int km.2, .int qm.1, .int qm.2.1, .int qm.2.2.1, .int qm.2.2.2, .int bd, .int u_86.1, .int u_86.2.1, .int u_86.2.2.1, .int u_86.2.2.2])), (ob, .inl (cZ, 5200, .inl bm.1)), (ok, .inl (cK, 600, .inl km.1))] := hD
                      refine lv_aload_n hx hb dX3_skip_184 rfl (lv_at hl 3 rfl) ?_
                      refine lv_iconst (v := 0) hx hb dX3_skip_185 (by decide) ?_
                      refine va_put (D := (dC, dI)) (ci := 3) (v := .int 0) (ty := .int) (C := RX3) (T := TX3) (N := 19) hx hb hts inGX3 tyX3 tyX3_ok nmX3 hown hK hP hD hS 0 rfl rfl 17 (by decide) (hts _ wd454) (fun _ h9 => h9) rfl (by decide +kernel) rfl rfl (Nat.le_of_ble_eq_true rfl) dX3_skip_186 (fun H locs hP hD hS => ?_)
                      have hP : va_P (dC, dI) vwCl [(om, .inr (3, [.int th, .int st, .int lo, .ref ob, .int bm.2.1, .int bm.2.2.1, .int bm.2.2.2.1, .int bm.2.2.2.2, .ref ok, .int km.2, .int qm.1, .int qm.2.1, .int qm.2.2.1, .int qm.2.2.2, .int bd, .int u_86.1, .int u_86.2.1, .int 0, .int u_86.2.2.2])), (ob, .inl (cZ, 5200, .inl bm.1)), (ok, .inl (cK, 600, .inl km.1))] H := hP
                      have hD : va_D A [(om, .inr (3, [.int th, .int st, .int lo, .ref ob, .int bm.2.1, .int bm.2.2.1, .int bm.2.2.2.1, .int bm.2.2.2.2, .ref ok, .int km.2, .int qm.1, .int qm.2.1, .int qm.2.2.1, .int qm.2.2.2, .int bd, .int u_86.1, .int u_86.2.1, .int 0, .int u_86.2.2.2])), (ob, .inl (cZ, 5200, .inl bm.1)), (ok, .inl (cK, 600, .inl km.1))] := hD
                      refine lv_goto (tgt := 20) hx hb dX3_skip_189 (by decide) ?_
                      exact ih th bm km qm bd (u_86.1, u_86.2.1, 0, u_86.2.2.2) i_83 (hf.2.2 _ _ (ssX3_skip_20_46 st lo th bm km qm bd ym nn c_27 c_35 c_42 c_50 c_57 _ hw_80 _ hw_81 _ ei_83 c_125 c_146 c_157 c_167 _ ef_84 _ hw_85)) ((plX3_skip_l20_49 st lo n th bm km qm bd ym nn c_27 c_35 c_42 c_50 c_57 _ hw_80 _ hw_81 _ ei_83 c_125 c_146 c_157 c_167 _ ef_84 _ hw_85).trans hz) _ _ (hP.sub (ws' := [(om, .inr (3, [.int th, .int st, .int lo, .ref ob, .int bm.2.1, .int bm.2.2.1, .int bm.2.2.2.1, .int bm.2.2.2.2, .ref ok, .int km.2, .int qm.1, .int qm.2.1, .int qm.2.2.1, .int qm.2.2.2, .int bd, .int ((u_86.1, u_86.2.1, 0, u_86.2.2.2).1), .int ((u_86.1, u_86.2.1, 0, u_86.2.2.2).2.1), .int ((u_86.1, u_86.2.1, 0, u_86.2.2.2).2.2.1), .int ((u_86.1, u_86.2.1, 0, u_86.2.2.2).2.2.2)])), (ob, .inl (cZ, 5200, .inl bm.1)), (ok, .inl (cK, 600, .inl km.1))]) [0, 1, 2] rfl) (hD.sub (ws' := [(om, .inr (3, [.int th, .int st, .int lo, .ref ob, .int bm.2.1, .int bm.2.2.1, .int bm.2.2.2.1, .int bm.2.2.2.2, .ref ok, .int km.2, .int qm.1, .int qm.2.1, .int qm.2.2.1, .int qm.2.2.2, .int bd, .int ((u_86.1, u_86.2.1, 0, u_86.2.2.2).1), .int ((u_86.1, u_86.2.1, 0, u_86.2.2.2).2.1), .int ((u_86.1, u_86.2.1, 0, u_86.2.2.2).2.2.1), .int ((u_86.1, u_86.2.1, 0, u_86.2.2.2).2.2.2)])), (ob, .inl (cZ, 5200, .inl bm.1)), (ok, .inl (cK, 600, .inl km.1))]) [0, 1, 2] (by decide) rfl) hS ls (lv_sub hl [3, 0] rfl)
              · refine lv_aload_n hx hb dX3_skip_128 rfl (lv_at hl 3 rfl) ?_
                refine va_get (D := (dC, dI)) (ci := 3) (v := .int u_82.2.2.1) (C := RX3) (T := TX3) (N := 19) hx hb hts inGX3 hown hK hP 0 rfl rfl 17 (by decide) (hts _ wd454) (fun _ h9 => h9) rfl dX3_skip_129 ?_
                refine lv_iconst (v := 1) hx hb dX3_skip_132 (by decide) ?_
                refine lv_iadd hx hb dX3_skip_133 ?_
                refine lv_goto (tgt := 138) hx hb dX3_skip_134 (by decide) ?_
                refine lv_topi (fun f_87 ef_87 => ?_)
                refine va_put (D := (dC, dI)) (ci := 3) (v := .int f_87) (ty := .int) (C := RX3) (T := TX3) (N := 19) hx hb hts inGX3 tyX3 tyX3_ok nmX3 hown hK hP hD hS 0 rfl rfl 17 (by decide) (hts _ wd454) (fun _ h9 => h9) rfl (by decide +kernel) rfl rfl (Nat.le_of_ble_eq_true rfl) dX3_skip_138 (fun H locs hP hD hS => ?_)
                have hP : va_P (dC, dI) vwCl [(om, .inr (3, [.int th, .int st, .int lo, .ref ob, .int bm.2.1, .int bm.2.2.1, .int bm.2.2.2.1, .int bm.2.2.2.2, .ref ok, .int km.2, .int qm.1, .int qm.2.1, .int qm.2.2.1, .int qm.2.2.2, .int bd, .int u_82.1, .int u_82.2.1, .int f_87, .int u_82.2.2.2])), (ob, .inl (cZ, 5200, .inl bm.1)), (ok, .inl (cK, 600, .inl km.1))] H := hP
                have hD : va_D A [(om, .inr (3, [.int th, .int st, .int lo, .ref ob, .int bm.2.1, .int bm.2.2.1, .int bm.2.2.2.1, .int bm.2.2.2.2, .ref ok, .int km.2, .int qm.1, .int qm.2.1, .int qm.2.2.1, .int qm.2.2.2, .int bd, .int u_82.1, .int u_82.2.1, .int f_87, .int u_82.2.2.2])), (ob, .inl (cZ, 5200, .inl bm.1)), (ok, .inl (cK, 600, .inl km.1))] := hD
                refine lv_aload_n hx hb dX3_skip_141 rfl (lv_at hl 3 rfl) ?_
                refine va_get (D := (dC, dI)) (ci := 3) (v := .int st) (C := RX3) (T := TX3) (N := 19) hx hb hts inGX3 hown hK hP 0 rfl rfl 1 (by decide) (hts _ wd438) (fun _ h9 => h9) rfl dX3_skip_142 ?_
                refine lv_iconst (v := 1) hx hb dX3_skip_145 (by decide) ?_
                refine lv_icmp_le (tgt := 189) hx hb dX3_skip_146 (by decide) (fun c_146 => ?_) (fun c_146 => ?_)
                · refine lv_goto (tgt := 20) hx hb dX3_skip_189 (by decide) ?_
                  exact ih th bm km qm bd (u_82.1, u_82.2.1, f_87, u_82.2.2.2) i_83 (hf.2.2 _ _ (ssX3_skip_20_47 st lo th bm km qm bd ym nn c_27 c_35 c_42 c_50 c_57 _ hw_80 _ hw_81 _ ei_83 c_125 _ ef_87 c_146)) ((plX3_skip_l20_50 st lo n th bm km qm bd ym nn c_27 c_35 c_42 c_50 c_57 _ hw_80 _ hw_81 _ ei_83 c_125 _ ef_87 c_146).trans hz) _ _ (hP.sub (ws' := [(om, .inr (3, [.int th, .int st, .int lo, .ref ob, .int bm.2.1, .int bm.2.2.1, .int bm.2.2.2.1, .int bm.2.2.2.2, .ref ok, .int km.2, .int qm.1, .int qm.2.1, .int qm.2.2.1, .int qm.2.2.2, .int bd, .int ((u_82.1, u_82.2.1, f_87, u_82.2.2.2).1), .int ((u_82.1, u_82.2.1, f_87, u_82.2.2.2).2.1), .int ((u_82.1, u_82.2.1, f_87, u_82.2.2.2).2.2.1), .int ((u_82.1, u_82.2.1, f_87, u_82.2.2.2).2.2.2)])), (ob, .inl (cZ, 5200, .inl bm.1)), (ok, .inl (cK, 600, .inl km.1))]) [0, 1, 2] rfl) (hD.sub (ws' := [(om, .inr (3, [.int th, .int st, .int lo, .ref ob, .int bm.2.1, .int bm.2.2.1, .int bm.2.2.2.1, .int bm.2.2.2.2, .ref ok, .int km.2, .int qm.1, .int qm.2.1, .int qm.2.2.1, .int qm.2.2.2, .int bd, .int ((u_82.1, u_82.2.1, f_87, u_82.2.2.2).1), .int ((u_82.1, u_82.2.1, f_87, u_82.2.2.2).2.1), .int ((u_82.1, u_82.2.1, f_87, u_82.2.2.2).2.2.1), .int ((u_82.1, u_82.2.1, f_87, u_82.2.2.2).2.2.2)])), (ob, .inl (cZ, 5200, .inl bm.1)), (ok, .inl (cK, 600, .inl km.1))]) [0, 1, 2] (by decide) rfl) hS ls (lv_sub hl [3, 0] rfl)
                · refine lv_aload_n hx hb dX3_skip_149 rfl (lv_at hl 3 rfl) ?_
                  refine va_get (D := (dC, dI)) (ci := 3) (v := .int f_87) (C := RX3) (T := TX3) (N := 19) hx hb hts inGX3 hown hK hP 0 rfl rfl 17 (by decide) (hts _ wd454) (fun _ h9 => h9) rfl dX3_skip_150 ?_
                  refine lv_aload_n hx hb dX3_skip_153 rfl (lv_at hl 3 rfl) ?_
                  refine va_get (D := (dC, dI)) (ci := 3) (v := .int st) (C := RX3) (T := TX3) (N := 19) hx hb hts inGX3 hown hK hP 0 rfl rfl 1 (by decide) (hts _ wd438) (fun _ h9 => h9) rfl dX3_skip_154 ?_
                  refine lv_icmp_ne (tgt := 189) hx hb dX3_skip_157 (by decide) (fun c_157 => ?_) (fun c_157 => ?_)
                  · refine lv_goto (tgt := 20) hx hb dX3_skip_189 (by decide) ?_
                    exact ih th bm km qm bd (u_82.1, u_82.2.1, f_87, u_82.2.2.2) i_83 (hf.2.2 _ _ (ssX3_skip_20_48 st lo th bm km qm bd ym nn c_27 c_35 c_42 c_50 c_57 _ hw_80 _ hw_81 _ ei_83 c_125 _ ef_87 c_146 c_157)) ((plX3_skip_l20_51 st lo n th bm km qm bd ym nn c_27 c_35 c_42 c_50 c_57 _ hw_80 _ hw_81 _ ei_83 c_125 _ ef_87 c_146 c_157).trans hz) _ _ (hP.sub (ws' := [(om, .inr (3, [.int th, .int st, .int lo, .ref ob, .int bm.2.1, .int bm.2.2.1, .int bm.2.2.2.1, .int bm.2.2.2.2, .ref ok, .int km.2, .int qm.1, .int qm.2.1, .int qm.2.2.1, .int qm.2.2.2, .int bd, .int ((u_82.1, u_82.2.1, f_87, u_82.2.2.2).1), .int ((u_82.1, u_82.2.1, f_87, u_82.2.2.2).2.1), .int ((u_82.1, u_82.2.1, f_87, u_82.2.2.2).2.2.1), .int ((u_82.1, u_82.2.1, f_87, u_82.2.2.2).2.2.2)])), (ob, .inl (cZ, 5200, .inl bm.1)), (ok, .inl (cK, 600, .inl km.1))]) [0, 1, 2] rfl) (hD.sub (ws' := [(om, .inr (3, [.int th, .int st, .int lo, .ref ob, .int bm.2.1, .int bm.2.2.1, .int bm.2.2.2.1, .int bm.2.2.2.2, .ref ok, .int km.2, .int qm.1, .int qm.2.1, .int qm.2.2.1, .int qm.2.2.2, .int bd, .int ((u_82.1, u_82.2.1, f_87, u_82.2.2.2).1), .int ((u_82.1, u_82.2.1, f_87, u_82.2.2.2).2.1), .int ((u_82.1, u_82.2.1, f_87, u_82.2.2.2).2.2.1), .int ((u_82.1, u_82.2.1, f_87, u_82.2.2.2).2.2.2)])), (ob, .inl (cZ, 5200, .inl bm.1)), (ok, .inl (cK, 600, .inl km.1))]) [0, 1, 2] (by decide) rfl) hS ls (lv_sub hl [3, 0] rfl)
                  · refine lv_aload_n hx hb dX3_skip_160 rfl (lv_at hl 3 rfl) ?_
                    refine va_get (D := (dC, dI)) (ci := 3) (v := .int u_82.1) (C := RX3) (T := TX3) (N := 19) hx hb hts inGX3 hown hK hP 0 rfl rfl 15 (by decide) (hts _ wd452) (fun _ h9 => h9) rfl dX3_skip_161 ?_
                    refine lv_bipush (v := 8) hx hb dX3_skip_164 (by decide) ?_
                    refine lv_irem hx hb dX3_skip_166 (by decide) ?_
                    refine lv_if_eq (tgt := 189) hx hb dX3_skip_167 (by decide) (fun c_167 => ?_) (fun c_167 => ?_)
                    · refine lv_goto (tgt := 20) hx hb dX3_skip_189 (by decide) ?_
                      exact ih th bm km qm bd (u_82.1, u_82.2.1, f_87, u_82.2.2.2) i_83 (hf.2.2 _ _ (ssX3_skip_20_49 st lo th bm km qm bd ym nn c_27 c_35 c_42 c_50 c_57 _ hw_80 _ hw_81 _ ei_83 c_125 _ ef_87 c_146 c_157 c_167)) ((plX3_skip_l20_52 st lo n th bm km qm bd ym nn c_27 c_35 c_42 c_50 c_57 _ hw_80 _ hw_81 _ ei_83 c_125 _ ef_87 c_146 c_157 c_167).trans hz) _ _ (hP.sub (ws' := [(om, .inr (3, [.int th, .int st, .int lo, .ref ob, .int bm.2.1, .int bm.2.2.1, .int bm.2.2.2.1, .int bm.2.2.2.2, .ref ok, .int km.2, .int qm.1, .int qm.2.1, .int qm.2.2.1, .int qm.2.2.2, .int bd, .int ((u_82.1, u_82.2.1, f_87, u_82.2.2.2).1), .int ((u_82.1, u_82.2.1, f_87, u_82.2.2.2).2.1), .int ((u_82.1, u_82.2.1, f_87, u_82.2.2.2).2.2.1), .int ((u_82.1, u_82.2.1, f_87, u_82.2.2.2).2.2.2)])), (ob, .inl (cZ, 5200, .inl bm.1)), (ok, .inl (cK, 600, .inl km.1))]) [0, 1, 2] rfl) (hD.sub (ws' := [(om, .inr (3, [.int th, .int st, .int lo, .ref ob, .int bm.2.1, .int bm.2.2.1, .int bm.2.2.2.1, .int bm.2.2.2.2, .ref ok, .int km.2, .int qm.1, .int qm.2.1, .int qm.2.2.1, .int qm.2.2.2, .int bd, .int ((u_82.1, u_82.2.1, f_87, u_82.2.2.2).1), .int ((u_82.1, u_82.2.1, f_87, u_82.2.2.2).2.1), .int ((u_82.1, u_82.2.1, f_87, u_82.2.2.2).2.2.1), .int ((u_82.1, u_82.2.1, f_87, u_82.2.2.2).2.2.2)])), (ob, .inl (cZ, 5200, .inl bm.1)), (ok, .inl (cK, 600, .inl km.1))]) [0, 1, 2] (by decide) rfl) hS ls (lv_sub hl [3, 0] rfl)
                    · refine lv_aload_n hx hb dX3_skip_170 rfl (lv_at hl 3 rfl) ?_
                      refine lv_dup hx hb dX3_skip_171 rfl ?_
                      refine va_get (D := (dC, dI)) (ci := 3) (v := .int u_82.2.1) (C := RX3) (T := TX3) (N := 19) hx hb hts inGX3 hown hK hP 0 rfl rfl 16 (by decide) (hts _ wd453) (fun _ h9 => h9) rfl dX3_skip_172 ?_
                      refine lv_iconst (v := 1) hx hb dX3_skip_175 (by decide) ?_
                      refine lv_iadd hx hb dX3_skip_176 ?_
                      refine lv_topi (fun f_88 ef_88 => ?_)
                      refine va_put (D := (dC, dI)) (ci := 3) (v := .int f_88) (ty := .int) (C := RX3) (T := TX3) (N := 19) hx hb hts inGX3 tyX3 tyX3_ok nmX3 hown hK hP hD hS 0 rfl rfl 16 (by decide) (hts _ wd453) (fun _ h9 => h9) rfl (by decide +kernel) rfl rfl (Nat.le_of_ble_eq_true rfl) dX3_skip_177 (fun H locs hP hD hS => ?_)
                      have hP : va_P (dC, dI) vwCl [(om, .inr (3, [.int th, .int st, .int lo, .ref ob, .int bm.2.1, .int bm.2.2.1, .int bm.2.2.2.1, .int bm.2.2.2.2, .ref ok, .int km.2, .int qm.1, .int qm.2.1, .int qm.2.2.1, .int qm.2.2.2, .int bd, .int u_82.1, .int f_88, .int f_87, .int u_82.2.2.2])), (ob, .inl (cZ, 5200, .inl bm.1)), (ok, .inl (cK, 600, .inl km.1))] H := hP
                      have hD : va_D A [(om, .inr (3, [.int th, .int st, .int lo, .ref ob, .int bm.2.1, .int bm.2.2.1, .int bm.2.2.2.1, .int bm.2.2.2.2, .ref ok, .int km.2, .int qm.1, .int qm.2.1, .int qm.2.2.1, .int qm.2.2.2, .int bd, .int u_82.1, .int f_88, .int f_87, .int u_82.2.2.2])), (ob, .inl (cZ, 5200, .inl bm.1)), (ok, .inl (cK, 600, .inl km.1))] := hD
                      refine lv_aload_n hx hb dX3_skip_180 rfl (lv_at hl 3 rfl) ?_
                      have hPc := hP.sub (ws' := [(om, .inr (3, [.int th, .int st, .int lo, .ref ob, .int bm.2.1, .int bm.2.2.1, .int bm.2.2.2.1, .int bm.2.2.2.2, .ref ok, .int km.2, .int qm.1, .int qm.2.1, .int qm.2.2.1, .int qm.2.2.2, .int bd, .int u_82.1, .int f_88, .int f_87, .int u_82.2.2.2])), (ob, .inl (cZ, 5200, .inl bm.1)), (ok, .inl (cK, 600, .inl km.1))]) [0, 1, 2] rfl
                      have hKc := hK.sub (tys' := [(cZ, .boolean), (cK, .int)]) [0, 1] rfl
                      have hDc := hD.sub (ws' := [(om, .inr (3, [.int th, .int st, .int lo, .ref ob, .int bm.2.1, .int bm.2.2.1, .int bm.2.2.2.1, .int bm.2.2.2.2, .ref ok, .int km.2, .int qm.1, .int qm.2.1, .int qm.2.2.1, .int qm.2.2.2, .int bd, .int u_82.1, .int f_88, .int f_87, .int u_82.2.2.2])), (ob, .inl (cZ, 5200, .inl bm.1)), (ok, .inl (cK, 600, .inl km.1))]) [0, 1, 2] (by decide) rfl
                      have hFc := va_free (wc := [(om, .inr (3, [.int th, .int st, .int lo, .ref ob, .int bm.2.1, .int bm.2.2.1, .int bm.2.2.2.1, .int bm.2.2.2.2, .ref ok, .int km.2, .int qm.1, .int qm.2.1, .int qm.2.2.1, .int qm.2.2.2, .int bd, .int u_82.1, .int f_88, .int f_87, .int u_82.2.2.2])), (ob, .inl (cZ, 5200, .inl bm.1)), (ok, .inl (cK, 600, .inl km.1))]) hD hS hA [0, 1, 2] rfl
                      refine va_callv (va_runV (As := []) (rest := []) ⟨hx, hb, hml, hown, hts⟩ (mX3_goOn l dC dI cZ cK om ob ok H.size st lo th bm km qm bd (u_82.1, f_88, f_87, u_82.2.2.2) (sk_tT hf.1 (by first | exact hf.2.1 (Or.inl c_27) | exact hf.2.1 (Or.inr ⟨c_35, c_42⟩)) (by assumption) c_167)) (cwV 0 hts (gV wd572 wd573 wd22 wd30 wd574) rfl rfl rfl (by decide +kernel) ⟨Nat.le_of_ble_eq_true rfl, Nat.le_of_ble_eq_true rfl⟩) ⟨fb_rw, va_recv hKc hPc (ci := 3) (q0 := 0) rfl rfl, pre_rw hPc hKc hDc hZ⟩ rfl rfl hl.1 rfl (lv_room (Nat.le_of_ble_eq_true rfl)) dX3_skip_181 ⟨Nat.le_of_ble_eq_true rfl, Nat.le_of_ble_eq_true rfl⟩) hS (fun q _ h => hFc q h) hFc (fun u_90 t H1 locs ht hvm hw_89 hB hz1 hk1 hS => ?_)
                      obtain ⟨hP1, hD1⟩ := hB
                      rw [ht] at hP1
                      obtain ⟨hP, hD⟩ := va_join (wr := []) (w1 := [(om, .inr (3, [.int th, .int st, .int lo, .ref ob, .int bm.2.1, .int bm.2.2.1, .int bm.2.2.2.1, .int bm.2.2.2.2, .ref ok, .int km.2, .int qm.1, .int qm.2.1, .int qm.2.2.1, .int qm.2.2.2, .int bd, .int u_90.1, .int u_90.2.1, .int u_90.2.2.1, .int u_90.2.2.2])), (ob, .inl (cZ, 5200, .inl bm.1)), (ok, .inl (cK, 600, .inl km.1))]) hP hD [0, 1, 2] [] rfl rfl (by decide) (by decide) hk1 hFc hP1 hD1
                      generalize H1 = H at hP hS ⊢
                      have hP : va_P (dC, dI) vwCl [(om, .inr (3, [.int th, .int st, .int lo, .ref ob, .int bm.2.1, .int bm.2.2.1, .int bm.2.2.2.1, .int bm.2.2.2.2, .ref ok, .int km.2, .int qm.1, .int qm.2.1, .int qm.2.2.1, .int qm.2.2.2, .int bd, .int u_90.1, .int u_90.2.1, .int u_90.2.2.1, .int u_90.2.2.2])), (ob, .inl (cZ, 5200, .inl bm.1)), (ok, .inl (cK, 600, .inl km.1))] H := hP
                      have hD : va_D A [(om, .inr (3, [.int th, .int st, .int lo, .ref ob, .int bm.2.1, .int bm.2.2.1, .int bm.2.2.2.1, .int bm.2.2.2.2, .ref ok, .int km.2, .int qm.1, .int qm.2.1, .int qm.2.2.1, .int qm.2.2.2, .int bd, .int u_90.1, .int u_90.2.1, .int u_90.2.2.1, .int u_90.2.2.2])), (ob, .inl (cZ, 5200, .inl bm.1)), (ok, .inl (cK, 600, .inl km.1))] := hD
                      refine lv_aload_n hx hb dX3_skip_184 rfl (lv_at hl 3 rfl) ?_
                      refine lv_iconst (v := 0) hx hb dX3_skip_185 (by decide) ?_
                      refine va_put (D := (dC, dI)) (ci := 3) (v := .int 0) (ty := .int) (C := RX3) (T := TX3) (N := 19) hx hb hts inGX3 tyX3 tyX3_ok nmX3 hown hK hP hD hS 0 rfl rfl 17 (by decide) (hts _ wd454) (fun _ h9 => h9) rfl (by decide +kernel) rfl rfl (Nat.le_of_ble_eq_true rfl) dX3_skip_186 (fun H locs hP hD hS => ?_)
                      have hP : va_P (dC, dI) vwCl [(om, .inr (3, [.int th, .int st, .int lo, .ref ob, .int bm.2.1, .int bm.2.2.1, .int bm.2.2.2.1, .int bm.2.2.2.2, .ref ok, .int km.2, .int qm.1, .int qm.2.1, .int qm.2.2.1, .int qm.2.2.2, .int bd, .int u_90.1, .int u_90.2.1, .int 0, .int u_90.2.2.2])), (ob, .inl (cZ, 5200, .inl bm.1)), (ok, .inl (cK, 600, .inl km.1))] H := hP
                      have hD : va_D A [(om, .inr (3, [.int th, .int st, .int lo, .ref ob, .int bm.2.1, .int bm.2.2.1, .int bm.2.2.2.1, .int bm.2.2.2.2, .ref ok, .int km.2, .int qm.1, .int qm.2.1, .int qm.2.2.1, .int qm.2.2.2, .int bd, .int u_90.1, .int u_90.2.1, .int 0, .int u_90.2.2.2])), (ob, .inl (cZ, 5200, .inl bm.1)), (ok, .inl (cK, 600, .inl km.1))] := hD
                      refine lv_goto (tgt := 20) hx hb dX3_skip_189 (by decide) ?_
                      exact ih th bm km qm bd (u_90.1, u_90.2.1, 0, u_90.2.2.2) i_83 (hf.2.2 _ _ (ssX3_skip_20_50 st lo th bm km qm bd ym nn c_27 c_35 c_42 c_50 c_57 _ hw_80 _ hw_81 _ ei_83 c_125 _ ef_87 c_146 c_157 c_167 _ ef_88 _ hw_89)) ((plX3_skip_l20_53 st lo n th bm km qm bd ym nn c_27 c_35 c_42 c_50 c_57 _ hw_80 _ hw_81 _ ei_83 c_125 _ ef_87 c_146 c_157 c_167 _ ef_88 _ hw_89).trans hz) _ _ (hP.sub (ws' := [(om, .inr (3, [.int th, .int st, .int lo, .ref ob, .int bm.2.1, .int bm.2.2.1, .int bm.2.2.2.1, .int bm.2.2.2.2, .ref ok, .int km.2, .int qm.1, .int qm.2.1, .int qm.2.2.1, .int qm.2.2.2, .int bd, .int ((u_90.1, u_90.2.1, 0, u_90.2.2.2).1), .int ((u_90.1, u_90.2.1, 0, u_90.2.2.2).2.1), .int ((u_90.1, u_90.2.1, 0, u_90.2.2.2).2.2.1), .int ((u_90.1, u_90.2.1, 0, u_90.2.2.2).2.2.2)])), (ob, .inl (cZ, 5200, .inl bm.1)), (ok, .inl (cK, 600, .inl km.1))]) [0, 1, 2] rfl) (hD.sub (ws' := [(om, .inr (3, [.int th, .int st, .int lo, .ref ob, .int bm.2.1, .int bm.2.2.1, .int bm.2.2.2.1, .int bm.2.2.2.2, .ref ok, .int km.2, .int qm.1, .int qm.2.1, .int qm.2.2.1, .int qm.2.2.2, .int bd, .int ((u_90.1, u_90.2.1, 0, u_90.2.2.2).1), .int ((u_90.1, u_90.2.1, 0, u_90.2.2.2).2.1), .int ((u_90.1, u_90.2.1, 0, u_90.2.2.2).2.2.1), .int ((u_90.1, u_90.2.1, 0, u_90.2.2.2).2.2.2)])), (ob, .inl (cZ, 5200, .inl bm.1)), (ok, .inl (cK, 600, .inl km.1))]) [0, 1, 2] (by decide) rfl) hS ls (lv_sub hl [3, 0] rfl)
            · refine lv_aload_n hx hb dX3_skip_60 rfl (lv_at hl 0 rfl) ?_
              refine va_get (D := (dC, dI)) (ci := 3) (v := .int ym.1) (C := RX3) (T := TX3) (N := 19) hx hb hts inGX3 hown hK hP 0 rfl rfl 15 (by decide) (hts _ wd452) (fun _ h9 => h9) rfl dX3_skip_61 ?_
              refine lv_bipush (v := 8) hx hb dX3_skip_64 (by decide) ?_
              refine lv_irem hx hb dX3_skip_66 (by decide) ?_
              refine lv_aload_n hx hb dX3_skip_67 rfl (lv_at hl 0 rfl) ?_
              refine va_get (D := (dC, dI)) (ci := 3) (v := .int lo) (C := RX3) (T := TX3) (N := 19) hx hb hts inGX3 hown hK hP 0 rfl rfl 2 (by decide) (hts _ wd439) (fun _ h9 => h9) rfl dX3_skip_68 ?_
              refine lv_if_eq (tgt := 79) hx hb dX3_skip_71 (by decide) (fun c_71 => ?_) (fun c_71 => ?_)
              · refine lv_iconst (v := 0) hx hb dX3_skip_79 (by decide) ?_
                refine lv_icmp_ne (tgt := 87) hx hb dX3_skip_80 (by decide) (fun c_80 => ?_) (fun c_80 => ?_)
                · refine lv_iconst (v := 0) hx hb dX3_skip_87 (by decide) ?_
                  refine lv_istore_n (lv' := [(2, .int 0), (0, .ref om), (1, .int nn)]) hx hb dX3_skip_88 rfl hl (by decide) rfl (fun ls hl => ?_)
                  refine lv_aload_n hx hb dX3_skip_89 rfl (lv_at hl 1 rfl) ?_
                  refine lv_aload_n hx hb dX3_skip_90 rfl (lv_at hl 1 rfl) ?_
                  refine va_get (D := (dC, dI)) (ci := 3) (v := .int ym.1) (C := RX3) (T := TX3) (N := 19) hx hb hts inGX3 hown hK hP 0 rfl rfl 15 (by decide) (hts _ wd452) (fun _ h9 => h9) rfl dX3_skip_91 ?_
                  have hPc := hP.sub (ws' := [(om, .inr (3, [.int th, .int st, .int lo, .ref ob, .int bm.2.1, .int bm.2.2.1, .int bm.2.2.2.1, .int bm.2.2.2.2, .ref ok, .int km.2, .int qm.1, .int qm.2.1, .int qm.2.2.1, .int qm.2.2.2, .int bd, .int ym.1, .int ym.2.1, .int ym.2.2.1, .int ym.2.2.2])), (ob, .inl (cZ, 5200, .inl bm.1)), (ok, .inl (cK, 600, .inl km.1))]) [0, 1, 2] rfl
                  have hKc := hK.sub (tys' := [(cZ, .boolean), (cK, .int)]) [0, 1] rfl
                  refine vp_callSi (va_Run.run (va_runV (As := [.int ym.1]) (rest := []) ⟨hx, hb, hml, hown, hts⟩ (mX3_bitAt l dC dI cZ cK om ob ok st lo th bm km qm bd ym ym.1 (t_in (by first | exact hf.2.1 (Or.inl c_27) | exact hf.2.1 (Or.inr ⟨c_35, c_42⟩)))) (cwV 1 hts (gV wd569 wd570 wd21 wd30 wd571) rfl rfl rfl (by decide +kernel) ⟨Nat.le_of_ble_eq_true rfl, Nat.le_of_ble_eq_true rfl⟩) ⟨fb_ro, va_recv hKc hPc (ci := 3) (q0 := 0) rfl rfl, pre_ro hPc hKc hZ⟩ rfl rfl hl.1 rfl (lv_room (Nat.le_of_ble_eq_true rfl)) dX3_skip_94 ⟨Nat.le_of_ble_eq_true rfl, Nat.le_of_ble_eq_true rfl⟩)) (fun r_91 hw_92 => ?_)
                  refine lv_istore_n (lv' := [(3, .int r_91), (2, .int 0), (0, .ref om), (1, .int nn)]) hx hb dX3_skip_97 rfl hl (by decide) rfl (fun ls hl => ?_)
                  refine lv_aload_n hx hb dX3_skip_98 rfl (lv_at hl 2 rfl) ?_
                  have hPc := hP.sub (ws' := [(om, .inr (3, [.int th, .int st, .int lo, .ref ob, .int bm.2.1, .int bm.2.2.1, .int bm.2.2.2.1, .int bm.2.2.2.2, .ref ok, .int km.2, .int qm.1, .int qm.2.1, .int qm.2.2.1, .int qm.2.2.2, .int bd, .int ym.1, .int ym.2.1, .int ym.2.2.1, .int ym.2.2.2])), (ob, .inl (cZ, 5200, .inl bm.1)), (ok, .inl (cK, 600, .inl km.1))]) [0, 1, 2] rfl
                  have hKc := hK.sub (tys' := [(cZ, .boolean), (cK, .int)]) [0, 1] rfl
                  have hDc := hD.sub (ws' := [(om, .inr (3, [.int th, .int st, .int lo, .ref ob, .int bm.2.1, .int bm.2.2.1, .int bm.2.2.2.1, .int bm.2.2.2.2, .ref ok, .int km.2, .int qm.1, .int qm.2.1, .int qm.2.2.1, .int qm.2.2.2, .int bd, .int ym.1, .int ym.2.1, .int ym.2.2.1, .int ym.2.2.2])), (ob, .inl (cZ, 5200, .inl bm.1)), (ok, .inl (cK, 600, .inl km.1))]) [0, 1, 2] (by decide) rfl
                  have hFc := va_free (wc := [(om, .inr (3, [.int th, .int st, .int lo, .ref ob, .int bm.2.1, .int bm.2.2.1, .int bm.2.2.2.1, .int bm.2.2.2.2, .ref ok, .int km.2, .int qm.1, .int qm.2.1, .int qm.2.2.1, .int qm.2.2.2, .int bd, .int ym.1, .int ym.2.1, .int ym.2.2.1, .int ym.2.2.2])), (ob, .inl (cZ, 5200, .inl bm.1)), (ok, .inl (cK, 600, .inl km.1))]) hD hS hA [0, 1, 2] rfl
                  refine va_callv (va_runV (As := []) (rest := []) ⟨hx, hb, hml, hown, hts⟩ (mX3_goOn l dC dI cZ cK om ob ok H.size st lo th bm km qm bd ym (by first | exact hf.2.1 (Or.inl c_27) | exact hf.2.1 (Or.inr ⟨c_35, c_42⟩))) (cwV 0 hts (gV wd572 wd573 wd22 wd30 wd574) rfl rfl rfl (by decide +kernel) ⟨Nat.le_of_ble_eq_true rfl, Nat.le_of_ble_eq_true rfl⟩) ⟨fb_rw, va_recv hKc hPc (ci := 3) (q0 := 0) rfl rfl, pre_rw hPc hKc hDc hZ⟩ rfl rfl hl.1 rfl (lv_room (Nat.le_of_ble_eq_true rfl)) dX3_skip_99 ⟨Nat.le_of_ble_eq_true rfl, Nat.le_of_ble_eq_true rfl⟩) hS (fun q _ h => hFc q h) hFc (fun u_94 t H1 locs ht hvm hw_93 hB hz1 hk1 hS => ?_)
                  obtain ⟨hP1, hD1⟩ := hB
                  rw [ht] at hP1
                  obtain ⟨hP, hD⟩ := va_join (wr := []) (w1 := [(om, .inr (3, [.int th, .int st, .int lo, .ref ob, .int bm.2.1, .int bm.2.2.1, .int bm.2.2.2.1, .int bm.2.2.2.2, .ref ok, .int km.2, .int qm.1, .int qm.2.1, .int qm.2.2.1, .int qm.2.2.2, .int bd, .int u_94.1, .int u_94.2.1, .int u_94.2.2.1, .int u_94.2.2.2])), (ob, .inl (cZ, 5200, .inl bm.1)), (ok, .inl (cK, 600, .inl km.1))]) hP hD [0, 1, 2] [] rfl rfl (by decide) (by decide) hk1 hFc hP1 hD1
                  generalize H1 = H at hP hS ⊢
                  have hP : va_P (dC, dI) vwCl [(om, .inr (3, [.int th, .int st, .int lo, .ref ob, .int bm.2.1, .int bm.2.2.1, .int bm.2.2.2.1, .int bm.2.2.2.2, .ref ok, .int km.2, .int qm.1, .int qm.2.1, .int qm.2.2.1, .int qm.2.2.2, .int bd, .int u_94.1, .int u_94.2.1, .int u_94.2.2.1, .int u_94.2.2.2])), (ob, .inl (cZ, 5200, .inl bm.1)), (ok, .inl (cK, 600, .inl km.1))] H := hP
                  have hD : va_D A [(om, .inr (3, [.int th, .int st, .int lo, .ref ob, .int bm.2.1, .int bm.2.2.1, .int bm.2.2.2.1, .int bm.2.2.2.2, .ref ok, .int km.2, .int qm.1, .int qm.2.1, .int qm.2.2.1, .int qm.2.2.2, .int bd, .int u_94.1, .int u_94.2.1, .int u_94.2.2.1, .int u_94.2.2.2])), (ob, .inl (cZ, 5200, .inl bm.1)), (ok, .inl (cK, 600, .inl km.1))] := hD
                  refine lv_iload_n hx hb dX3_skip_102 rfl (lv_at hl 1 rfl) ?_
                  refine lv_if_eq (tgt := 119) hx hb dX3_skip_103 (by decide) (fun c_103 => ?_) (fun c_103 => absurd c_103 (by decide))
                  obtain ⟨i_95, ei_95⟩ : ∃ y : Int32, y = nn + 1 := ⟨_, rfl⟩
                  refine lv_iinc (v := i_95) (lv' := [(1, .int i_95), (3, .int r_91), (2, .int 0), (0, .ref om)]) hx hb dX3_skip_119 hl (k := 3) rfl (by rw [ei_95]; rfl) (by decide) rfl (fun ls hl => ?_)
                  refine lv_aload_n hx hb dX3_skip_122 rfl (lv_at hl 3 rfl) ?_
                  refine lv_iload_n hx hb dX3_skip_123 rfl (lv_at hl 1 rfl) ?_
                  refine lv_iconst (v := 1) hx hb dX3_skip_124 (by decide) ?_
                  refine lv_icmp_ne (tgt := 137) hx hb dX3_skip_125 (by decide) (fun c_125 => ?_) (fun c_125 => ?_)
                  · refine lv_iconst (v := 0) hx hb dX3_skip_137 (by decide) ?_
                    refine va_put (D := (dC, dI)) (ci := 3) (v := .int 0) (ty := .int) (C := RX3) (T := TX3) (N := 19) hx hb hts inGX3 tyX3 tyX3_ok nmX3 hown hK hP hD hS 0 rfl rfl 17 (by decide) (hts _ wd454) (fun _ h9 => h9) rfl (by decide +kernel) rfl rfl (Nat.le_of_ble_eq_true rfl) dX3_skip_138 (fun H locs hP hD hS => ?_)
                    have hP : va_P (dC, dI) vwCl [(om, .inr (3, [.int th, .int st, .int lo, .ref ob, .int bm.2.1, .int bm.2.2.1, .int bm.2.2.2.1, .int bm.2.2.2.2, .ref ok, .int km.2, .int qm.1, .int qm.2.1, .int qm.2.2.1, .int qm.2.2.2, .int bd, .int u_94.1, .int u_94.2.1, .int 0, .int u_94.2.2.2])), (ob, .inl (cZ, 5200, .inl bm.1)), (ok, .inl (cK, 600, .inl km.1))] H := hP
                    have hD : va_D A [(om, .inr (3, [.int th, .int st, .int lo, .ref ob, .int bm.2.1, .int bm.2.2.1, .int bm.2.2.2.1, .int bm.2.2.2.2, .ref ok, .int km.2, .int qm.1, .int qm.2.1, .int qm.2.2.1, .int qm.2.2.2, .int bd, .int u_94.1, .int u_94.2.1, .int 0, .int u_94.2.2.2])), (ob, .inl (cZ, 5200, .inl bm.1)), (ok, .inl (cK, 600, .inl km.1))] := hD
                    refine lv_aload_n hx hb dX3_skip_141 rfl (lv_at hl 3 rfl) ?_
                    refine va_get (D := (dC, dI)) (ci := 3) (v := .int st) (C := RX3) (T := TX3) (N := 19) hx hb hts inGX3 hown hK hP 0 rfl rfl 1 (by decide) (hts _ wd438) (fun _ h9 => h9) rfl dX3_skip_142 ?_
                    refine lv_iconst (v := 1) hx hb dX3_skip_145 (by decide) ?_
                    refine lv_icmp_le (tgt := 189) hx hb dX3_skip_146 (by decide) (fun c_146 => ?_) (fun c_146 => ?_)
                    · refine lv_goto (tgt := 20) hx hb dX3_skip_189 (by decide) ?_
                      exact ih th bm km qm bd (u_94.1, u_94.2.1, 0, u_94.2.2.2) i_95 (hf.2.2 _ _ (ssX3_skip_20_51 st lo th bm km qm bd ym nn c_27 c_35 c_42 c_50 c_57 c_71 c_80 _ hw_92 _ hw_93 _ ei_95 c_125 c_146)) ((plX3_skip_l20_54 st lo n th bm km qm bd ym nn c_27 c_35 c_42 c_50 c_57 c_71 c_80 _ hw_92 _ hw_93 _ ei_95 c_125 c_146).trans hz) _ _ (hP.sub (ws' := [(om, .inr (3, [.int th, .int st, .int lo, .ref ob, .int bm.2.1, .int bm.2.2.1, .int bm.2.2.2.1, .int bm.2.2.2.2, .ref ok, .int km.2, .int qm.1, .int qm.2.1, .int qm.2.2.1, .int qm.2.2.2, .int bd, .int ((u_94.1, u_94.2.1, 0, u_94.2.2.2).1), .int ((u_94.1, u_94.2.1, 0, u_94.2.2.2).2.1), .int ((u_94.1, u_94.2.1, 0, u_94.2.2.2).2.2.1), .int ((u_94.1, u_94.2.1, 0, u_94.2.2.2).2.2.2)])), (ob, .inl (cZ, 5200, .inl bm.1)), (ok, .inl (cK, 600, .inl km.1))]) [0, 1, 2] rfl) (hD.sub (ws' := [(om, .inr (3, [.int th, .int st, .int lo, .ref ob, .int bm.2.1, .int bm.2.2.1, .int bm.2.2.2.1, .int bm.2.2.2.2, .ref ok, .int km.2, .int qm.1, .int qm.2.1, .int qm.2.2.1, .int qm.2.2.2, .int bd, .int ((u_94.1, u_94.2.1, 0, u_94.2.2.2).1), .int ((u_94.1, u_94.2.1, 0, u_94.2.2.2).2.1), .int ((u_94.1, u_94.2.1, 0, u_94.2.2.2).2.2.1), .int ((u_94.1, u_94.2.1, 0, u_94.2.2.2).2.2.2)])), (ob, .inl (cZ, 5200, .inl bm.1)), (ok, .inl (cK, 600, .inl km.1))]) [0, 1, 2] (by decide) rfl) hS ls (lv_sub hl [3, 0] rfl)
                    · refine lv_aload_n hx hb dX3_skip_149 rfl (lv_at hl 3 rfl) ?_
                      refine va_get (D := (dC, dI)) (ci := 3) (v := .int 0) (C := RX3) (T := TX3) (N := 19) hx hb hts inGX3 hown hK hP 0 rfl rfl 17 (by decide) (hts _ wd454) (fun _ h9 => h9) rfl dX3_skip_150 ?_
                      refine lv_aload_n hx hb dX3_skip_153 rfl (lv_at hl 3 rfl) ?_
                      refine va_get (D := (dC, dI)) (ci := 3) (v := .int st) (C := RX3) (T := TX3) (N := 19) hx hb hts inGX3 hown hK hP 0 rfl rfl 1 (by decide) (hts _ wd438) (fun _ h9 => h9) rfl dX3_skip_154 ?_
                      refine lv_icmp_ne (tgt := 189) hx hb dX3_skip_157 (by decide) (fun c_157 => ?_) (fun c_157 => ?_)
                      · refine lv_goto (tgt := 20) hx hb dX3_skip_189 (by decide) ?_
                        exact ih th bm km qm bd (u_94.1, u_94.2.1, 0, u_94.2.2.2) i_95 (hf.2.2 _ _ (ssX3_skip_20_52 st lo th bm km qm bd ym nn c_27 c_35 c_42 c_50 c_57 c_71 c_80 _ hw_92 _ hw_93 _ ei_95 c_125 c_146 c_157)) ((plX3_skip_l20_55 st lo n th bm km qm bd ym nn c_27 c_35 c_42 c_50 c_57 c_71 c_80 _ hw_92 _ hw_93 _ ei_95 c_125 c_146 c_157).trans hz) _ _ (hP.sub (ws' := [(om, .inr (3, [.int th, .int st, .int lo, .ref ob, .int bm.2.1, .int bm.2.2.1, .int bm.2.2.2.1, .int bm.2.2.2.2, .ref ok, .int km.2, .int qm.1, .int qm.2.1, .int qm.2.2.1, .int qm.2.2.2, .int bd, .int ((u_94.1, u_94.2.1, 0, u_94.2.2.2).1), .int ((u_94.1, u_94.2.1, 0, u_94.2.2.2).2.1), .int ((u_94.1, u_94.2.1, 0, u_94.2.2.2).2.2.1), .int ((u_94.1, u_94.2.1, 0, u_94.2.2.2).2.2.2)])), (ob, .inl (cZ, 5200, .inl bm.1)), (ok, .inl (cK, 600, .inl km.1))]) [0, 1, 2] rfl) (hD.sub (ws' := [(om, .inr (3, [.int th, .int st, .int lo, .ref ob, .int bm.2.1, .int bm.2.2.1, .int bm.2.2.2.1, .int bm.2.2.2.2, .ref ok, .int km.2, .int qm.1, .int qm.2.1, .int qm.2.2.1, .int qm.2.2.2, .int bd, .int ((u_94.1, u_94.2.1, 0, u_94.2.2.2).1), .int ((u_94.1, u_94.2.1, 0, u_94.2.2.2).2.1), .int ((u_94.1, u_94.2.1, 0, u_94.2.2.2).2.2.1), .int ((u_94.1, u_94.2.1, 0, u_94.2.2.2).2.2.2)])), (ob, .inl (cZ, 5200, .inl bm.1)), (ok, .inl (cK, 600, .inl km.1))]) [0, 1, 2] (by decide) rfl) hS ls (lv_sub hl [3, 0] rfl)
                      · refine lv_aload_n hx hb dX3_skip_160 rfl (lv_at hl 3 rfl) ?_
                        refine va_get (D := (dC, dI)) (ci := 3) (v := .int u_94.1) (C := RX3) (T := TX3) (N := 19) hx hb hts inGX3 hown hK hP 0 rfl rfl 15 (by decide) (hts _ wd452) (fun _ h9 => h9) rfl dX3_skip_161 ?_
                        refine lv_bipush (v := 8) hx hb dX3_skip_164 (by decide) ?_
                        refine lv_irem hx hb dX3_skip_166 (by decide) ?_
                        refine lv_if_eq (tgt := 189) hx hb dX3_skip_167 (by decide) (fun c_167 => ?_) (fun c_167 => ?_)
                        · refine lv_goto (tgt := 20) hx hb dX3_skip_189 (by decide) ?_
                          exact ih th bm km qm bd (u_94.1, u_94.2.1, 0, u_94.2.2.2) i_95 (hf.2.2 _ _ (ssX3_skip_20_53 st lo th bm km qm bd ym nn c_27 c_35 c_42 c_50 c_57 c_71 c_80 _ hw_92 _ hw_93 _ ei_95 c_125 c_146 c_157 c_167)) ((plX3_skip_l20_56 st lo n th bm km qm bd ym nn c_27 c_35 c_42 c_50 c_57 c_71 c_80 _ hw_92 _ hw_93 _ ei_95 c_125 c_146 c_157 c_167).trans hz) _ _ (hP.sub (ws' := [(om, .inr (3, [.int th, .int st, .int lo, .ref ob, .int bm.2.1, .int bm.2.2.1, .int bm.2.2.2.1, .int bm.2.2.2.2, .ref ok, .int km.2, .int qm.1, .int qm.2.1, .int qm.2.2.1, .int qm.2.2.2, .int bd, .int ((u_94.1, u_94.2.1, 0, u_94.2.2.2).1), .int ((u_94.1, u_94.2.1, 0, u_94.2.2.2).2.1), .int ((u_94.1, u_94.2.1, 0, u_94.2.2.2).2.2.1), .int ((u_94.1, u_94.2.1, 0, u_94.2.2.2).2.2.2)])), (ob, .inl (cZ, 5200, .inl bm.1)), (ok, .inl (cK, 600, .inl km.1))]) [0, 1, 2] rfl) (hD.sub (ws' := [(om, .inr (3, [.int th, .int st, .int lo, .ref ob, .int bm.2.1, .int bm.2.2.1, .int bm.2.2.2.1, .int bm.2.2.2.2, .ref ok, .int km.2, .int qm.1, .int qm.2.1, .int qm.2.2.1, .int qm.2.2.2, .int bd, .int ((u_94.1, u_94.2.1, 0, u_94.2.2.2).1), .int ((u_94.1, u_94.2.1, 0, u_94.2.2.2).2.1), .int ((u_94.1, u_94.2.1, 0, u_94.2.2.2).2.2.1), .int ((u_94.1, u_94.2.1, 0, u_94.2.2.2).2.2.2)])), (ob, .inl (cZ, 5200, .inl bm.1)), (ok, .inl (cK, 600, .inl km.1))]) [0, 1, 2] (by decide) rfl) hS ls (lv_sub hl [3, 0] rfl)
                        · refine lv_aload_n hx hb dX3_skip_170 rfl (lv_at hl 3 rfl) ?_
                          refine lv_dup hx hb dX3_skip_171 rfl ?_
                          refine va_get (D := (dC, dI)) (ci := 3) (v := .int u_94.2.1) (C := RX3) (T := TX3) (N := 19) hx hb hts inGX3 hown hK hP 0 rfl rfl 16 (by decide) (hts _ wd453) (fun _ h9 => h9) rfl dX3_skip_172 ?_
                          refine lv_iconst (v := 1) hx hb dX3_skip_175 (by decide) ?_
                          refine lv_iadd hx hb dX3_skip_176 ?_
                          refine lv_topi (fun f_96 ef_96 => ?_)
                          refine va_put (D := (dC, dI)) (ci := 3) (v := .int f_96) (ty := .int) (C := RX3) (T := TX3) (N := 19) hx hb hts inGX3 tyX3 tyX3_ok nmX3 hown hK hP hD hS 0 rfl rfl 16 (by decide) (hts _ wd453) (fun _ h9 => h9) rfl (by decide +kernel) rfl rfl (Nat.le_of_ble_eq_true rfl) dX3_skip_177 (fun H locs hP hD hS => ?_)
                          have hP : va_P (dC, dI) vwCl [(om, .inr (3, [.int th, .int st, .int lo, .ref ob, .int bm.2.1, .int bm.2.2.1, .int bm.2.2.2.1, .int bm.2.2.2.2, .ref ok, .int km.2, .int qm.1, .int qm.2.1, .int qm.2.2.1, .int qm.2.2.2, .int bd, .int u_94.1, .int f_96, .int 0, .int u_94.2.2.2])), (ob, .inl (cZ, 5200, .inl bm.1)), (ok, .inl (cK, 600, .inl km.1))] H := hP
                          have hD : va_D A [(om, .inr (3, [.int th, .int st, .int lo, .ref ob, .int bm.2.1, .int bm.2.2.1, .int bm.2.2.2.1, .int bm.2.2.2.2, .ref ok, .int km.2, .int qm.1, .int qm.2.1, .int qm.2.2.1, .int qm.2.2.2, .int bd, .int u_94.1, .int f_96, .int 0, .int u_94.2.2.2])), (ob, .inl (cZ, 5200, .inl bm.1)), (ok, .inl (cK, 600, .inl km.1))] := hD
                          refine lv_aload_n hx hb dX3_skip_180 rfl (lv_at hl 3 rfl) ?_
                          have hPc := hP.sub (ws' := [(om, .inr (3, [.int th, .int st, .int lo, .ref ob, .int bm.2.1, .int bm.2.2.1, .int bm.2.2.2.1, .int bm.2.2.2.2, .ref ok, .int km.2, .int qm.1, .int qm.2.1, .int qm.2.2.1, .int qm.2.2.2, .int bd, .int u_94.1, .int f_96, .int 0, .int u_94.2.2.2])), (ob, .inl (cZ, 5200, .inl bm.1)), (ok, .inl (cK, 600, .inl km.1))]) [0, 1, 2] rfl
                          have hKc := hK.sub (tys' := [(cZ, .boolean), (cK, .int)]) [0, 1] rfl
                          have hDc := hD.sub (ws' := [(om, .inr (3, [.int th, .int st, .int lo, .ref ob, .int bm.2.1, .int bm.2.2.1, .int bm.2.2.2.1, .int bm.2.2.2.2, .ref ok, .int km.2, .int qm.1, .int qm.2.1, .int qm.2.2.1, .int qm.2.2.2, .int bd, .int u_94.1, .int f_96, .int 0, .int u_94.2.2.2])), (ob, .inl (cZ, 5200, .inl bm.1)), (ok, .inl (cK, 600, .inl km.1))]) [0, 1, 2] (by decide) rfl
                          have hFc := va_free (wc := [(om, .inr (3, [.int th, .int st, .int lo, .ref ob, .int bm.2.1, .int bm.2.2.1, .int bm.2.2.2.1, .int bm.2.2.2.2, .ref ok, .int km.2, .int qm.1, .int qm.2.1, .int qm.2.2.1, .int qm.2.2.2, .int bd, .int u_94.1, .int f_96, .int 0, .int u_94.2.2.2])), (ob, .inl (cZ, 5200, .inl bm.1)), (ok, .inl (cK, 600, .inl km.1))]) hD hS hA [0, 1, 2] rfl
                          refine va_callv (va_runV (As := []) (rest := []) ⟨hx, hb, hml, hown, hts⟩ (mX3_goOn l dC dI cZ cK om ob ok H.size st lo th bm km qm bd (u_94.1, f_96, 0, u_94.2.2.2) (sk_tT hf.1 (by first | exact hf.2.1 (Or.inl c_27) | exact hf.2.1 (Or.inr ⟨c_35, c_42⟩)) (by assumption) c_167)) (cwV 0 hts (gV wd572 wd573 wd22 wd30 wd574) rfl rfl rfl (by decide +kernel) ⟨Nat.le_of_ble_eq_true rfl, Nat.le_of_ble_eq_true rfl⟩) ⟨fb_rw, va_recv hKc hPc (ci := 3) (q0 := 0) rfl rfl, pre_rw hPc hKc hDc hZ⟩ rfl rfl hl.1 rfl (lv_room (Nat.le_of_ble_eq_true rfl)) dX3_skip_181 ⟨Nat.le_of_ble_eq_true rfl, Nat.le_of_ble_eq_true rfl⟩) hS (fun q _ h => hFc q h) hFc (fun u_98 t H1 locs ht hvm hw_97 hB hz1 hk1 hS => ?_)
                          obtain ⟨hP1, hD1⟩ := hB
                          rw [ht] at hP1
                          obtain ⟨hP, hD⟩ := va_join (wr := []) (w1 := [(om, .inr (3, [.int th, .int st, .int lo, .ref ob, .int bm.2.1, .int bm.2.2.1, .int bm.2.2.2.1, .int bm.2.2.2.2, .ref ok, .int km.2, .int qm.1, .int qm.2.1, .int qm.2.2.1, .int qm.2.2.2, .int bd, .int u_98.1, .int u_98.2.1, .int u_98.2.2.1, .int u_98.2.2.2])), (ob, .inl (cZ, 5200, .inl bm.1)), (ok, .inl (cK, 600, .inl km.1))]) hP hD [0, 1, 2] [] rfl rfl (by decide) (by decide) hk1 hFc hP1 hD1
                          generalize H1 = H at hP hS ⊢
                          have hP : va_P (dC, dI) vwCl [(om, .inr (3, [.int th, .int st, .int lo, .ref ob, .int bm.2.1, .int bm.2.2.1, .int bm.2.2.2.1, .int bm.2.2.2.2, .ref ok, .int km.2, .int qm.1, .int qm.2.1, .int qm.2.2.1, .int qm.2.2.2, .int bd, .int u_98.1, .int u_98.2.1, .int u_98.2.2.1, .int u_98.2.2.2])), (ob, .inl (cZ, 5200, .inl bm.1)), (ok, .inl (cK, 600, .inl km.1))] H := hP
                          have hD : va_D A [(om, .inr (3, [.int th, .int st, .int lo, .ref ob, .int bm.2.1, .int bm.2.2.1, .int bm.2.2.2.1, .int bm.2.2.2.2, .ref ok, .int km.2, .int qm.1, .int qm.2.1, .int qm.2.2.1, .int qm.2.2.2, .int bd, .int u_98.1, .int u_98.2.1, .int u_98.2.2.1, .int u_98.2.2.2])), (ob, .inl (cZ, 5200, .inl bm.1)), (ok, .inl (cK, 600, .inl km.1))] := hD
                          refine lv_aload_n hx hb dX3_skip_184 rfl (lv_at hl 3 rfl) ?_
                          refine lv_iconst (v := 0) hx hb dX3_skip_185 (by decide) ?_
                          refine va_put (D := (dC, dI)) (ci := 3) (v := .int 0) (ty := .int) (C := RX3) (T := TX3) (N := 19) hx hb hts inGX3 tyX3 tyX3_ok nmX3 hown hK hP hD hS 0 rfl rfl 17 (by decide) (hts _ wd454) (fun _ h9 => h9) rfl (by decide +kernel) rfl rfl (Nat.le_of_ble_eq_true rfl) dX3_skip_186 (fun H locs hP hD hS => ?_)
                          have hP : va_P (dC, dI) vwCl [(om, .inr (3, [.int th, .int st, .int lo, .ref ob, .int bm.2.1, .int bm.2.2.1, .int bm.2.2.2.1, .int bm.2.2.2.2, .ref ok, .int km.2, .int qm.1, .int qm.2.1, .int qm.2.2.1, .int qm.2.2.2, .int bd, .int u_98.1, .int u_98.2.1, .int 0, .int u_98.2.2.2])), (ob, .inl (cZ, 5200, .inl bm.1)), (ok, .inl (cK, 600, .inl km.1))] H := hP
                          have hD : va_D A [(om, .inr (3, [.int th, .int st, .int lo, .ref ob, .int bm.2.1, .int bm.2.2.1, .int bm.2.2.2.1, .int bm.2.2.2.2, .ref ok, .int km.2, .int qm.1, .int qm.2.1, .int qm.2.2.1, .int qm.2.2.2, .int bd, .int u_98.1, .int u_98.2.1, .int 0, .int u_98.2.2.2])), (ob, .inl (cZ, 5200, .inl bm.1)), (ok, .inl (cK, 600, .inl km.1))] := hD
                          refine lv_goto (tgt := 20) hx hb dX3_skip_189 (by decide) ?_
                          exact ih th bm km qm bd (u_98.1, u_98.2.1, 0, u_98.2.2.2) i_95 (hf.2.2 _ _ (ssX3_skip_20_54 st lo th bm km qm bd ym nn c_27 c_35 c_42 c_50 c_57 c_71 c_80 _ hw_92 _ hw_93 _ ei_95 c_125 c_146 c_157 c_167 _ ef_96 _ hw_97)) ((plX3_skip_l20_57 st lo n th bm km qm bd ym nn c_27 c_35 c_42 c_50 c_57 c_71 c_80 _ hw_92 _ hw_93 _ ei_95 c_125 c_146 c_157 c_167 _ ef_96 _ hw_97).trans hz) _ _ (hP.sub (ws' := [(om, .inr (3, [.int th, .int st, .int lo, .ref ob, .int bm.2.1, .int bm.2.2.1, .int bm.2.2.2.1, .int bm.2.2.2.2, .ref ok, .int km.2, .int qm.1, .int qm.2.1, .int qm.2.2.1, .int qm.2.2.2, .int bd, .int ((u_98.1, u_98.2.1, 0, u_98.2.2.2).1), .int ((u_98.1, u_98.2.1, 0, u_98.2.2.2).2.1), .int ((u_98.1, u_98.2.1, 0, u_98.2.2.2).2.2.1), .int ((u_98.1, u_98.2.1, 0, u_98.2.2.2).2.2.2)])), (ob, .inl (cZ, 5200, .inl bm.1)), (ok, .inl (cK, 600, .inl km.1))]) [0, 1, 2] rfl) (hD.sub (ws' := [(om, .inr (3, [.int th, .int st, .int lo, .ref ob, .int bm.2.1, .int bm.2.2.1, .int bm.2.2.2.1, .int bm.2.2.2.2, .ref ok, .int km.2, .int qm.1, .int qm.2.1, .int qm.2.2.1, .int qm.2.2.2, .int bd, .int ((u_98.1, u_98.2.1, 0, u_98.2.2.2).1), .int ((u_98.1, u_98.2.1, 0, u_98.2.2.2).2.1), .int ((u_98.1, u_98.2.1, 0, u_98.2.2.2).2.2.1), .int ((u_98.1, u_98.2.1, 0, u_98.2.2.2).2.2.2)])), (ob, .inl (cZ, 5200, .inl bm.1)), (ok, .inl (cK, 600, .inl km.1))]) [0, 1, 2] (by decide) rfl) hS ls (lv_sub hl [3, 0] rfl)
                  · refine lv_aload_n hx hb dX3_skip_128 rfl (lv_at hl 3 rfl) ?_
                    refine va_get (D := (dC, dI)) (ci := 3) (v := .int u_94.2.2.1) (C := RX3) (T := TX3) (N := 19) hx hb hts inGX3 hown hK hP 0 rfl rfl 17 (by decide) (hts _ wd454) (fun _ h9 => h9) rfl dX3_skip_129 ?_
                    refine lv_iconst (v := 1) hx hb dX3_skip_132 (by decide) ?_
                    refine lv_iadd hx hb dX3_skip_133 ?_
                    refine lv_goto (tgt := 138) hx hb dX3_skip_134 (by decide) ?_
                    refine lv_topi (fun f_99 ef_99 => ?_)
                    refine va_put (D := (dC, dI)) (ci := 3) (v := .int f_99) (ty := .int) (C := RX3) (T := TX3) (N := 19) hx hb hts inGX3 tyX3 tyX3_ok nmX3 hown hK hP hD hS 0 rfl rfl 17 (by decide) (hts _ wd454) (fun _ h9 => h9) rfl (by decide +kernel) rfl rfl (Nat.le_of_ble_eq_true rfl) dX3_skip_138 (fun H locs hP hD hS => ?_)
                    have hP : va_P (dC, dI) vwCl [(om, .inr (3, [.int th, .int st, .int lo, .ref ob, .int bm.2.1, .int bm.2.2.1, .int bm.2.2.2.1, .int bm.2.2.2.2, .ref ok, .int km.2, .int qm.1, .int qm.2.1, .int qm.2.2.1, .int qm.2.2.2, .int bd, .int u_94.1, .int u_94.2.1, .int f_99, .int u_94.2.2.2])), (ob, .inl (cZ, 5200, .inl bm.1)), (ok, .inl (cK, 600, .inl km.1))] H := hP
                    have hD : va_D A [(om, .inr (3, [.int th, .int st, .int lo, .ref ob, .int bm.2.1, .int bm.2.2.1, .int bm.2.2.2.1, .int bm.2.2.2.2, .ref ok, .int km.2, .int qm.1, .int qm.2.1, .int qm.2.2.1, .int qm.2.2.2, .int bd, .int u_94.1, .int u_94.2.1, .int f_99, .int u_94.2.2.2])), (ob, .inl (cZ, 5200, .inl bm.1)), (ok, .inl (cK, 600, .inl km.1))] := hD
                    refine lv_aload_n hx hb dX3_skip_141 rfl (lv_at hl 3 rfl) ?_
                    refine va_get (D := (dC, dI)) (ci := 3) (v := .int st) (C := RX3) (T := TX3) (N := 19) hx hb hts inGX3 hown hK hP 0 rfl rfl 1 (by decide) (hts _ wd438) (fun _ h9 => h9) rfl dX3_skip_142 ?_
                    refine lv_iconst (v := 1) hx hb dX3_skip_145 (by decide) ?_
                    refine lv_icmp_le (tgt := 189) hx hb dX3_skip_146 (by decide) (fun c_146 => ?_) (fun c_146 => ?_)
                    · refine lv_goto (tgt := 20) hx hb dX3_skip_189 (by decide) ?_
                      exact ih th bm km qm bd (u_94.1, u_94.2.1, f_99, u_94.2.2.2) i_95 (hf.2.2 _ _ (ssX3_skip_20_55 st lo th bm km qm bd ym nn c_27 c_35 c_42 c_50 c_57 c_71 c_80 _ hw_92 _ hw_93 _ ei_95 c_125 _ ef_99 c_146)) ((plX3_skip_l20_58 st lo n th bm km qm bd ym nn c_27 c_35 c_42 c_50 c_57 c_71 c_80 _ hw_92 _ hw_93 _ ei_95 c_125 _ ef_99 c_146).trans hz) _ _ (hP.sub (ws' := [(om, .inr (3, [.int th, .int st, .int lo, .ref ob, .int bm.2.1, .int bm.2.2.1, .int bm.2.2.2.1, .int bm.2.2.2.2, .ref ok, .int km.2, .int qm.1, .int qm.2.1, .int qm.2.2.1, .int qm.2.2.2, .int bd, .int ((u_94.1, u_94.2.1, f_99, u_94.2.2.2).1), .int ((u_94.1, u_94.2.1, f_99, u_94.2.2.2).2.1), .int ((u_94.1, u_94.2.1, f_99, u_94.2.2.2).2.2.1), .int ((u_94.1, u_94.2.1, f_99, u_94.2.2.2).2.2.2)])), (ob, .inl (cZ, 5200, .inl bm.1)), (ok, .inl (cK, 600, .inl km.1))]) [0, 1, 2] rfl) (hD.sub (ws' := [(om, .inr (3, [.int th, .int st, .int lo, .ref ob, .int bm.2.1, .int bm.2.2.1, .int bm.2.2.2.1, .int bm.2.2.2.2, .ref ok, .int km.2, .int qm.1, .int qm.2.1, .int qm.2.2.1, .int qm.2.2.2, .int bd, .int ((u_94.1, u_94.2.1, f_99, u_94.2.2.2).1), .int ((u_94.1, u_94.2.1, f_99, u_94.2.2.2).2.1), .int ((u_94.1, u_94.2.1, f_99, u_94.2.2.2).2.2.1), .int ((u_94.1, u_94.2.1, f_99, u_94.2.2.2).2.2.2)])), (ob, .inl (cZ, 5200, .inl bm.1)), (ok, .inl (cK, 600, .inl km.1))]) [0, 1, 2] (by decide) rfl) hS ls (lv_sub hl [3, 0] rfl)
                    · refine lv_aload_n hx hb dX3_skip_149 rfl (lv_at hl 3 rfl) ?_
                      refine va_get (D := (dC, dI)) (ci := 3) (v := .int f_99) (C := RX3) (T := TX3) (N := 19) hx hb hts inGX3 hown hK hP 0 rfl rfl 17 (by decide) (hts _ wd454) (fun _ h9 => h9) rfl dX3_skip_150 ?_
                      refine lv_aload_n hx hb dX3_skip_153 rfl (lv_at hl 3 rfl) ?_
                      refine va_get (D := (dC, dI)) (ci := 3) (v := .int st) (C := RX3) (T := TX3) (N := 19) hx hb hts inGX3 hown hK hP 0 rfl rfl 1 (by decide) (hts _ wd438) (fun _ h9 => h9) rfl dX3_skip_154 ?_
                      refine lv_icmp_ne (tgt := 189) hx hb dX3_skip_157 (by decide) (fun c_157 => ?_) (fun c_157 => ?_)
                      · refine lv_goto (tgt := 20) hx hb dX3_skip_189 (by decide) ?_
                        exact ih th bm km qm bd (u_94.1, u_94.2.1, f_99, u_94.2.2.2) i_95 (hf.2.2 _ _ (ssX3_skip_20_56 st lo th bm km qm bd ym nn c_27 c_35 c_42 c_50 c_57 c_71 c_80 _ hw_92 _ hw_93 _ ei_95 c_125 _ ef_99 c_146 c_157)) ((plX3_skip_l20_59 st lo n th bm km qm bd ym nn c_27 c_35 c_42 c_50 c_57 c_71 c_80 _ hw_92 _ hw_93 _ ei_95 c_125 _ ef_99 c_146 c_157).trans hz) _ _ (hP.sub (ws' := [(om, .inr (3, [.int th, .int st, .int lo, .ref ob, .int bm.2.1, .int bm.2.2.1, .int bm.2.2.2.1, .int bm.2.2.2.2, .ref ok, .int km.2, .int qm.1, .int qm.2.1, .int qm.2.2.1, .int qm.2.2.2, .int bd, .int ((u_94.1, u_94.2.1, f_99, u_94.2.2.2).1), .int ((u_94.1, u_94.2.1, f_99, u_94.2.2.2).2.1), .int ((u_94.1, u_94.2.1, f_99, u_94.2.2.2).2.2.1), .int ((u_94.1, u_94.2.1, f_99, u_94.2.2.2).2.2.2)])), (ob, .inl (cZ, 5200, .inl bm.1)), (ok, .inl (cK, 600, .inl km.1))]) [0, 1, 2] rfl) (hD.sub (ws' := [(om, .inr (3, [.int th, .int st, .int lo, .ref ob, .int bm.2.1, .int bm.2.2.1, .int bm.2.2.2.1, .int bm.2.2.2.2, .ref ok, .int km.2, .int qm.1, .int qm.2.1, .int qm.2.2.1, .int qm.2.2.2, .int bd, .int ((u_94.1, u_94.2.1, f_99, u_94.2.2.2).1), .int ((u_94.1, u_94.2.1, f_99, u_94.2.2.2).2.1), .int ((u_94.1, u_94.2.1, f_99, u_94.2.2.2).2.2.1), .int ((u_94.1, u_94.2.1, f_99, u_94.2.2.2).2.2.2)])), (ob, .inl (cZ, 5200, .inl bm.1)), (ok, .inl (cK, 600, .inl km.1))]) [0, 1, 2] (by decide) rfl) hS ls (lv_sub hl [3, 0] rfl)
                      · refine lv_aload_n hx hb dX3_skip_160 rfl (lv_at hl 3 rfl) ?_
                        refine va_get (D := (dC, dI)) (ci := 3) (v := .int u_94.1) (C := RX3) (T := TX3) (N := 19) hx hb hts inGX3 hown hK hP 0 rfl rfl 15 (by decide) (hts _ wd452) (fun _ h9 => h9) rfl dX3_skip_161 ?_
                        refine lv_bipush (v := 8) hx hb dX3_skip_164 (by decide) ?_
                        refine lv_irem hx hb dX3_skip_166 (by decide) ?_
                        refine lv_if_eq (tgt := 189) hx hb dX3_skip_167 (by decide) (fun c_167 => ?_) (fun c_167 => ?_)
                        · refine lv_goto (tgt := 20) hx hb dX3_skip_189 (by decide) ?_
                          exact ih th bm km qm bd (u_94.1, u_94.2.1, f_99, u_94.2.2.2) i_95 (hf.2.2 _ _ (ssX3_skip_20_57 st lo th bm km qm bd ym nn c_27 c_35 c_42 c_50 c_57 c_71 c_80 _ hw_92 _ hw_93 _ ei_95 c_125 _ ef_99 c_146 c_157 c_167)) ((plX3_skip_l20_60 st lo n th bm km qm bd ym nn c_27 c_35 c_42 c_50 c_57 c_71 c_80 _ hw_92 _ hw_93 _ ei_95 c_125 _ ef_99 c_146 c_157 c_167).trans hz) _ _ (hP.sub (ws' := [(om, .inr (3, [.int th, .int st, .int lo, .ref ob, .int bm.2.1, .int bm.2.2.1, .int bm.2.2.2.1, .int bm.2.2.2.2, .ref ok, .int km.2, .int qm.1, .int qm.2.1, .int qm.2.2.1, .int qm.2.2.2, .int bd, .int ((u_94.1, u_94.2.1, f_99, u_94.2.2.2).1), .int ((u_94.1, u_94.2.1, f_99, u_94.2.2.2).2.1), .int ((u_94.1, u_94.2.1, f_99, u_94.2.2.2).2.2.1), .int ((u_94.1, u_94.2.1, f_99, u_94.2.2.2).2.2.2)])), (ob, .inl (cZ, 5200, .inl bm.1)), (ok, .inl (cK, 600, .inl km.1))]) [0, 1, 2] rfl) (hD.sub (ws' := [(om, .inr (3, [.int th, .int st, .int lo, .ref ob, .int bm.2.1, .int bm.2.2.1, .int bm.2.2.2.1, .int bm.2.2.2.2, .ref ok, .int km.2, .int qm.1, .int qm.2.1, .int qm.2.2.1, .int qm.2.2.2, .int bd, .int ((u_94.1, u_94.2.1, f_99, u_94.2.2.2).1), .int ((u_94.1, u_94.2.1, f_99, u_94.2.2.2).2.1), .int ((u_94.1, u_94.2.1, f_99, u_94.2.2.2).2.2.1), .int ((u_94.1, u_94.2.1, f_99, u_94.2.2.2).2.2.2)])), (ob, .inl (cZ, 5200, .inl bm.1)), (ok, .inl (cK, 600, .inl km.1))]) [0, 1, 2] (by decide) rfl) hS ls (lv_sub hl [3, 0] rfl)
                        · refine lv_aload_n hx hb dX3_skip_170 rfl (lv_at hl 3 rfl) ?_
                          refine lv_dup hx hb dX3_skip_171 rfl ?_
                          refine va_get (D := (dC, dI)) (ci := 3) (v := .int u_94.2.1) (C := RX3) (T := TX3) (N := 19) hx hb hts inGX3 hown hK hP 0 rfl rfl 16 (by decide) (hts _ wd453) (fun _ h9 => h9) rfl dX3_skip_172 ?_
                          refine lv_iconst (v := 1) hx hb dX3_skip_175 (by decide) ?_
                          refine lv_iadd hx hb dX3_skip_176 ?_
                          refine lv_topi (fun f_100 ef_100 => ?_)
                          refine va_put (D := (dC, dI)) (ci := 3) (v := .int f_100) (ty := .int) (C := RX3) (T := TX3) (N := 19) hx hb hts inGX3 tyX3 tyX3_ok nmX3 hown hK hP hD hS 0 rfl rfl 16 (by decide) (hts _ wd453) (fun _ h9 => h9) rfl (by decide +kernel) rfl rfl (Nat.le_of_ble_eq_true rfl) dX3_skip_177 (fun H locs hP hD hS => ?_)
                          have hP : va_P (dC, dI) vwCl [(om, .inr (3, [.int th, .int st, .int lo, .ref ob, .int bm.2.1, .int bm.2.2.1, .int bm.2.2.2.1, .int bm.2.2.2.2, .ref ok, .int km.2, .int qm.1, .int qm.2.1, .int qm.2.2.1, .int qm.2.2.2, .int bd, .int u_94.1, .int f_100, .int f_99, .int u_94.2.2.2])), (ob, .inl (cZ, 5200, .inl bm.1)), (ok, .inl (cK, 600, .inl km.1))] H := hP
                          have hD : va_D A [(om, .inr (3, [.int th, .int st, .int lo, .ref ob, .int bm.2.1, .int bm.2.2.1, .int bm.2.2.2.1, .int bm.2.2.2.2, .ref ok, .int km.2, .int qm.1, .int qm.2.1, .int qm.2.2.1, .int qm.2.2.2, .int bd, .int u_94.1, .int f_100, .int f_99, .int u_94.2.2.2])), (ob, .inl (cZ, 5200, .inl bm.1)), (ok, .inl (cK, 600, .inl km.1))] := hD
                          refine lv_aload_n hx hb dX3_skip_180 rfl (lv_at hl 3 rfl) ?_
                          have hPc := hP.sub (ws' := [(om, .inr (3, [.int th, .int st, .int lo, .ref ob, .int bm.2.1, .int bm.2.2.1, .int bm.2.2.2.1, .int bm.2.2.2.2, .ref ok, .int km.2, .int qm.1, .int qm.2.1, .int qm.2.2.1, .int qm.2.2.2, .int bd, .int u_94.1, .int f_100, .int f_99, .int u_94.2.2.2])), (ob, .inl (cZ, 5200, .inl bm.1)), (ok, .inl (cK, 600, .inl km.1))]) [0, 1, 2] rfl
                          have hKc := hK.sub (tys' := [(cZ, .boolean), (cK, .int)]) [0, 1] rfl
                          have hDc := hD.sub (ws' := [(om, .inr (3, [.int th, .int st, .int lo, .ref ob, .int bm.2.1, .int bm.2.2.1, .int bm.2.2.2.1, .int bm.2.2.2.2, .ref ok, .int km.2, .int qm.1, .int qm.2.1, .int qm.2.2.1, .int qm.2.2.2, .int bd, .int u_94.1, .int f_100, .int f_99, .int u_94.2.2.2])), (ob, .inl (cZ, 5200, .inl bm.1)), (ok, .inl (cK, 600, .inl km.1))]) [0, 1, 2] (by decide) rfl
                          have hFc := va_free (wc := [(om, .inr (3, [.int th, .int st, .int lo, .ref ob, .int bm.2.1, .int bm.2.2.1, .int bm.2.2.2.1, .int bm.2.2.2.2, .ref ok, .int km.2, .int qm.1, .int qm.2.1, .int qm.2.2.1, .int qm.2.2.2, .int bd, .int u_94.1, .int f_100, .int f_99, .int u_94.2.2.2])), (ob, .inl (cZ, 5200, .inl bm.1)), (ok, .inl (cK, 600, .inl km.1))]) hD hS hA [0, 1, 2] rfl
                          refine va_callv (va_runV (As := []) (rest := []) ⟨hx, hb, hml, hown, hts⟩ (mX3_goOn l dC dI cZ cK om ob ok H.size st lo th bm km qm bd (u_94.1, f_100, f_99, u_94.2.2.2) (sk_tT hf.1 (by first | exact hf.2.1 (Or.inl c_27) | exact hf.2.1 (Or.inr ⟨c_35, c_42⟩)) (by assumption) c_167)) (cwV 0 hts (gV wd572 wd573 wd22 wd30 wd574) rfl rfl rfl (by decide +kernel) ⟨Nat.le_of_ble_eq_true rfl, Nat.le_of_ble_eq_true rfl⟩) ⟨fb_rw, va_recv hKc hPc (ci := 3) (q0 := 0) rfl rfl, pre_rw hPc hKc hDc hZ⟩ rfl rfl hl.1 rfl (lv_room (Nat.le_of_ble_eq_true rfl)) dX3_skip_181 ⟨Nat.le_of_ble_eq_true rfl, Nat.le_of_ble_eq_true rfl⟩) hS (fun q _ h => hFc q h) hFc (fun u_102 t H1 locs ht hvm hw_101 hB hz1 hk1 hS => ?_)
                          obtain ⟨hP1, hD1⟩ := hB
                          rw [ht] at hP1
                          obtain ⟨hP, hD⟩ := va_join (wr := []) (w1 := [(om, .inr (3, [.int th, .int st, .int lo, .ref ob, .int bm.2.1, .int bm.2.2.1, .int bm.2.2.2.1, .int bm.2.2.2.2, .ref ok, .int km.2, .int qm.1, .int qm.2.1, .int qm.2.2.1, .int qm.2.2.2, .int bd, .int u_102.1, .int u_102.2.1, .int u_102.2.2.1, .int u_102.2.2.2])), (ob, .inl (cZ, 5200, .inl bm.1)), (ok, .inl (cK, 600, .inl km.1))]) hP hD [0, 1, 2] [] rfl rfl (by decide) (by decide) hk1 hFc hP1 hD1
                          generalize H1 = H at hP hS ⊢
                          have hP : va_P (dC, dI) vwCl [(om, .inr (3, [.int th, .int st, .int lo, .ref ob, .int bm.2.1, .int bm.2.2.1, .int bm.2.2.2.1, .int bm.2.2.2.2, .ref ok, .int km.2, .int qm.1, .int qm.2.1, .int qm.2.2.1, .int qm.2.2.2, .int bd, .int u_102.1, .int u_102.2.1, .int u_102.2.2.1, .int u_102.2.2.2])), (ob, .inl (cZ, 5200, .inl bm.1)), (ok, .inl (cK, 600, .inl km.1))] H := hP
                          have hD : va_D A [(om, .inr (3, [.int th, .int st, .int lo, .ref ob, .int bm.2.1, .int bm.2.2.1, .int bm.2.2.2.1, .int bm.2.2.2.2, .ref ok, .int km.2, .int qm.1, .int qm.2.1, .int qm.2.2.1, .int qm.2.2.2, .int bd, .int u_102.1, .int u_102.2.1, .int u_102.2.2.1, .int u_102.2.2.2])), (ob, .inl (cZ, 5200, .inl bm.1)), (ok, .inl (cK, 600, .inl km.1))] := hD
                          refine lv_aload_n hx hb dX3_skip_184 rfl (lv_at hl 3 rfl) ?_
                          refine lv_iconst (v := 0) hx hb dX3_skip_185 (by decide) ?_
                          refine va_put (D := (dC, dI)) (ci := 3) (v := .int 0) (ty := .int) (C := RX3) (T := TX3) (N := 19) hx hb hts inGX3 tyX3 tyX3_ok nmX3 hown hK hP hD hS 0 rfl rfl 17 (by decide) (hts _ wd454) (fun _ h9 => h9) rfl (by decide +kernel) rfl rfl (Nat.le_of_ble_eq_true rfl) dX3_skip_186 (fun H locs hP hD hS => ?_)
                          have hP : va_P (dC, dI) vwCl [(om, .inr (3, [.int th, .int st, .int lo, .ref ob, .int bm.2.1, .int bm.2.2.1, .int bm.2.2.2.1, .int bm.2.2.2.2, .ref ok, .int km.2, .int qm.1, .int qm.2.1, .int qm.2.2.1, .int qm.2.2.2, .int bd, .int u_102.1, .int u_102.2.1, .int 0, .int u_102.2.2.2])), (ob, .inl (cZ, 5200, .inl bm.1)), (ok, .inl (cK, 600, .inl km.1))] H := hP
                          have hD : va_D A [(om, .inr (3, [.int th, .int st, .int lo, .ref ob, .int bm.2.1, .int bm.2.2.1, .int bm.2.2.2.1, .int bm.2.2.2.2, .ref ok, .int km.2, .int qm.1, .int qm.2.1, .int qm.2.2.1, .int qm.2.2.2, .int bd, .int u_102.1, .int u_102.2.1, .int 0, .int u_102.2.2.2])), (ob, .inl (cZ, 5200, .inl bm.1)), (ok, .inl (cK, 600, .inl km.1))] := hD
                          refine lv_goto (tgt := 20) hx hb dX3_skip_189 (by decide) ?_
                          exact ih th bm km qm bd (u_102.1, u_102.2.1, 0, u_102.2.2.2) i_95 (hf.2.2 _ _ (ssX3_skip_20_58 st lo th bm km qm bd ym nn c_27 c_35 c_42 c_50 c_57 c_71 c_80 _ hw_92 _ hw_93 _ ei_95 c_125 _ ef_99 c_146 c_157 c_167 _ ef_100 _ hw_101)) ((plX3_skip_l20_61 st lo n th bm km qm bd ym nn c_27 c_35 c_42 c_50 c_57 c_71 c_80 _ hw_92 _ hw_93 _ ei_95 c_125 _ ef_99 c_146 c_157 c_167 _ ef_100 _ hw_101).trans hz) _ _ (hP.sub (ws' := [(om, .inr (3, [.int th, .int st, .int lo, .ref ob, .int bm.2.1, .int bm.2.2.1, .int bm.2.2.2.1, .int bm.2.2.2.2, .ref ok, .int km.2, .int qm.1, .int qm.2.1, .int qm.2.2.1, .int qm.2.2.2, .int bd, .int ((u_102.1, u_102.2.1, 0, u_102.2.2.2).1), .int ((u_102.1, u_102.2.1, 0, u_102.2.2.2).2.1), .int ((u_102.1, u_102.2.1, 0, u_102.2.2.2).2.2.1), .int ((u_102.1, u_102.2.1, 0, u_102.2.2.2).2.2.2)])), (ob, .inl (cZ, 5200, .inl bm.1)), (ok, .inl (cK, 600, .inl km.1))]) [0, 1, 2] rfl) (hD.sub (ws' := [(om, .inr (3, [.int th, .int st, .int lo, .ref ob, .int bm.2.1, .int bm.2.2.1, .int bm.2.2.2.1, .int bm.2.2.2.2, .ref ok, .int km.2, .int qm.1, .int qm.2.1, .int qm.2.2.1, .int qm.2.2.2, .int bd, .int ((u_102.1, u_102.2.1, 0, u_102.2.2.2).1), .int ((u_102.1, u_102.2.1, 0, u_102.2.2.2).2.1), .int ((u_102.1, u_102.2.1, 0, u_102.2.2.2).2.2.1), .int ((u_102.1, u_102.2.1, 0, u_102.2.2.2).2.2.2)])), (ob, .inl (cZ, 5200, .inl bm.1)), (ok, .inl (cK, 600, .inl km.1))]) [0, 1, 2] (by decide) rfl) hS ls (lv_sub hl [3, 0] rfl)
                · refine lv_iconst (v := 1) hx hb dX3_skip_83 (by decide) ?_
                  refine lv_goto (tgt := 88) hx hb dX3_skip_84 (by decide) ?_
                  refine lv_istore_n (lv' := [(2, .int 1), (0, .ref om), (1, .int nn)]) hx hb dX3_skip_88 rfl hl (by decide) rfl (fun ls hl => ?_)
                  refine lv_aload_n hx hb dX3_skip_89 rfl (lv_at hl 1 rfl) ?_
                  refine lv_aload_n hx hb dX3_skip_90 rfl (lv_at hl 1 rfl) ?_
                  refine va_get (D := (dC, dI)) (ci := 3) (v := .int ym.1) (C := RX3) (T := TX3) (N := 19) hx hb hts inGX3 hown hK hP 0 rfl rfl 15 (by decide) (hts _ wd452) (fun _ h9 => h9) rfl dX3_skip_91 ?_
                  have hPc := hP.sub (ws' := [(om, .inr (3, [.int th, .int st, .int lo, .ref ob, .int bm.2.1, .int bm.2.2.1, .int bm.2.2.2.1, .int bm.2.2.2.2, .ref ok, .int km.2, .int qm.1, .int qm.2.1, .int qm.2.2.1, .int qm.2.2.2, .int bd, .int ym.1, .int ym.2.1, .int ym.2.2.1, .int ym.2.2.2])), (ob, .inl (cZ, 5200, .inl bm.1)), (ok, .inl (cK, 600, .inl km.1))]) [0, 1, 2] rfl
                  have hKc := hK.sub (tys' := [(cZ, .boolean), (cK, .int)]) [0, 1] rfl
                  refine vp_callSi (va_Run.run (va_runV (As := [.int ym.1]) (rest := []) ⟨hx, hb, hml, hown, hts⟩ (mX3_bitAt l dC dI cZ cK om ob ok st lo th bm km qm bd ym ym.1 (t_in (by first | exact hf.2.1 (Or.inl c_27) | exact hf.2.1 (Or.inr ⟨c_35, c_42⟩)))) (cwV 1 hts (gV wd569 wd570 wd21 wd30 wd571) rfl rfl rfl (by decide +kernel) ⟨Nat.le_of_ble_eq_true rfl, Nat.le_of_ble_eq_true rfl⟩) ⟨fb_ro, va_recv hKc hPc (ci := 3) (q0 := 0) rfl rfl, pre_ro hPc hKc hZ⟩ rfl rfl hl.1 rfl (lv_room (Nat.le_of_ble_eq_true rfl)) dX3_skip_94 ⟨Nat.le_of_ble_eq_true rfl, Nat.le_of_ble_eq_true rfl⟩)) (fun r_103 hw_104 => ?_)
                  refine lv_istore_n (lv' := [(3, .int r_103), (2, .int 1), (0, .ref om), (1, .int nn)]) hx hb dX3_skip_97 rfl hl (by decide) rfl (fun ls hl => ?_)
                  refine lv_aload_n hx hb dX3_skip_98 rfl (lv_at hl 2 rfl) ?_
                  have hPc := hP.sub (ws' := [(om, .inr (3, [.int th, .int st, .int lo, .ref ob, .int bm.2.1, .int bm.2.2.1, .int bm.2.2.2.1, .int bm.2.2.2.2, .ref ok, .int km.2, .int qm.1, .int qm.2.1, .int qm.2.2.1, .int qm.2.2.2, .int bd, .int ym.1, .int ym.2.1, .int ym.2.2.1, .int ym.2.2.2])), (ob, .inl (cZ, 5200, .inl bm.1)), (ok, .inl (cK, 600, .inl km.1))]) [0, 1, 2] rfl
                  have hKc := hK.sub (tys' := [(cZ, .boolean), (cK, .int)]) [0, 1] rfl
                  have hDc := hD.sub (ws' := [(om, .inr (3, [.int th, .int st, .int lo, .ref ob, .int bm.2.1, .int bm.2.2.1, .int bm.2.2.2.1, .int bm.2.2.2.2, .ref ok, .int km.2, .int qm.1, .int qm.2.1, .int qm.2.2.1, .int qm.2.2.2, .int bd, .int ym.1, .int ym.2.1, .int ym.2.2.1, .int ym.2.2.2])), (ob, .inl (cZ, 5200, .inl bm.1)), (ok, .inl (cK, 600, .inl km.1))]) [0, 1, 2] (by decide) rfl
                  have hFc := va_free (wc := [(om, .inr (3, [.int th, .int st, .int lo, .ref ob, .int bm.2.1, .int bm.2.2.1, .int bm.2.2.2.1, .int bm.2.2.2.2, .ref ok, .int km.2, .int qm.1, .int qm.2.1, .int qm.2.2.1, .int qm.2.2.2, .int bd, .int ym.1, .int ym.2.1, .int ym.2.2.1, .int ym.2.2.2])), (ob, .inl (cZ, 5200, .inl bm.1)), (ok, .inl (cK, 600, .inl km.1))]) hD hS hA [0, 1, 2] rfl
                  refine va_callv (va_runV (As := []) (rest := []) ⟨hx, hb, hml, hown, hts⟩ (mX3_goOn l dC dI cZ cK om ob ok H.size st lo th bm km qm bd ym (by first | exact hf.2.1 (Or.inl c_27) | exact hf.2.1 (Or.inr ⟨c_35, c_42⟩))) (cwV 0 hts (gV wd572 wd573 wd22 wd30 wd574) rfl rfl rfl (by decide +kernel) ⟨Nat.le_of_ble_eq_true rfl, Nat.le_of_ble_eq_true rfl⟩) ⟨fb_rw, va_recv hKc hPc (ci := 3) (q0 := 0) rfl rfl, pre_rw hPc hKc hDc hZ⟩ rfl rfl hl.1 rfl (lv_room (Nat.le_of_ble_eq_true rfl)) dX3_skip_99 ⟨Nat.le_of_ble_eq_true rfl, Nat.le_of_ble_eq_true rfl⟩) hS (fun q _ h => hFc q h) hFc (fun u_106 t H1 locs ht hvm hw_105 hB hz1 hk1 hS => ?_)
                  obtain ⟨hP1, hD1⟩ := hB
                  rw [ht] at hP1
                  obtain ⟨hP, hD⟩ := va_join (wr := []) (w1 := [(om, .inr (3, [.int th, .int st, .int lo, .ref ob, .int bm.2.1, .int bm.2.2.1, .int bm.2.2.2.1, .int bm.2.2.2.2, .ref ok, .int km.2, .int qm.1, .int qm.2.1, .int qm.2.2.1, .int qm.2.2.2, .int bd, .int u_106.1, .int u_106.2.1, .int u_106.2.2.1, .int u_106.2.2.2])), (ob, .inl (cZ, 5200, .inl bm.1)), (ok, .inl (cK, 600, .inl km.1))]) hP hD [0, 1, 2] [] rfl rfl (by decide) (by decide) hk1 hFc hP1 hD1
                  generalize H1 = H at hP hS ⊢
                  have hP : va_P (dC, dI) vwCl [(om, .inr (3, [.int th, .int st, .int lo, .ref ob, .int bm.2.1, .int bm.2.2.1, .int bm.2.2.2.1, .int bm.2.2.2.2, .ref ok, .int km.2, .int qm.1, .int qm.2.1, .int qm.2.2.1, .int qm.2.2.2, .int bd, .int u_106.1, .int u_106.2.1, .int u_106.2.2.1, .int u_106.2.2.2])), (ob, .inl (cZ, 5200, .inl bm.1)), (ok, .inl (cK, 600, .inl km.1))] H := hP
                  have hD : va_D A [(om, .inr (3, [.int th, .int st, .int lo, .ref ob, .int bm.2.1, .int bm.2.2.1, .int bm.2.2.2.1, .int bm.2.2.2.2, .ref ok, .int km.2, .int qm.1, .int qm.2.1, .int qm.2.2.1, .int qm.2.2.2, .int bd, .int u_106.1, .int u_106.2.1, .int u_106.2.2.1, .int u_106.2.2.2])), (ob, .inl (cZ, 5200, .inl bm.1)), (ok, .inl (cK, 600, .inl km.1))] := hD
                  refine lv_iload_n hx hb dX3_skip_102 rfl (lv_at hl 1 rfl) ?_
                  refine lv_if_eq (tgt := 119) hx hb dX3_skip_103 (by decide) (fun c_103 => absurd c_103 (by decide)) (fun c_103 => ?_)
                  refine lv_aload_n hx hb dX3_skip_106 rfl (lv_at hl 2 rfl) ?_
                  refine lv_dup hx hb dX3_skip_107 rfl ?_
                  refine va_get (D := (dC, dI)) (ci := 3) (v := .int u_106.2.1) (C := RX3) (T := TX3) (N := 19) hx hb hts inGX3 hown hK hP 0 rfl rfl 16 (by decide) (hts _ wd453) (fun _ h9 => h9) rfl dX3_skip_108 ?_
                  refine lv_iconst (v := 1) hx hb dX3_skip_111 (by decide) ?_
                  refine lv_iadd hx hb dX3_skip_112 ?_
                  refine lv_topi (fun f_107 ef_107 => ?_)
                  refine va_put (D := (dC, dI)) (ci := 3) (v := .int f_107) (ty := .int) (C := RX3) (T := TX3) (N := 19) hx hb hts inGX3 tyX3 tyX3_ok nmX3 hown hK hP hD hS 0 rfl rfl 16 (by decide) (hts _ wd453) (fun _ h9 => h9) rfl (by decide +kernel) rfl rfl (Nat.le_of_ble_eq_true rfl) dX3_skip_113 (fun H locs hP hD hS => ?_)
                  have hP : va_P (dC, dI) vwCl [(om, .inr (3, [.int th, .int st, .int lo, .ref ob, .int bm.2.1, .int bm.2.2.1, .int bm.2.2.2.1, .int bm.2.2.2.2, .ref ok, .int km.2, .int qm.1, .int qm.2.1, .int qm.2.2.1, .int qm.2.2.2, .int bd, .int u_106.1, .int f_107, .int u_106.2.2.1, .int u_106.2.2.2])), (ob, .inl (cZ, 5200, .inl bm.1)), (ok, .inl (cK, 600, .inl km.1))] H := hP
                  have hD : va_D A [(om, .inr (3, [.int th, .int st, .int lo, .ref ob, .int bm.2.1, .int bm.2.2.1, .int bm.2.2.2.1, .int bm.2.2.2.2, .ref ok, .int km.2, .int qm.1, .int qm.2.1, .int qm.2.2.1, .int qm.2.2.2, .int bd, .int u_106.1, .int f_107, .int u_106.2.2.1, .int u_106.2.2.2])), (ob, .inl (cZ, 5200, .inl bm.1)), (ok, .inl (cK, 600, .inl km.1))] := hD
                  refine lv_goto (tgt := 189) hx hb dX3_skip_116 (by decide) ?_
                  refine lv_goto (tgt := 20) hx hb dX3_skip_189 (by decide) ?_
                  exact ih th bm km qm bd (u_106.1, f_107, u_106.2.2.1, u_106.2.2.2) nn (hf.2.2 _ _ (ssX3_skip_20_59 st lo th bm km qm bd ym nn c_27 c_35 c_42 c_50 c_57 c_71 c_80 _ hw_104 _ hw_105 _ ef_107)) ((plX3_skip_l20_62 st lo n th bm km qm bd ym nn c_27 c_35 c_42 c_50 c_57 c_71 c_80 _ hw_104 _ hw_105 _ ef_107).trans hz) _ _ (hP.sub (ws' := [(om, .inr (3, [.int th, .int st, .int lo, .ref ob, .int bm.2.1, .int bm.2.2.1, .int bm.2.2.2.1, .int bm.2.2.2.2, .ref ok, .int km.2, .int qm.1, .int qm.2.1, .int qm.2.2.1, .int qm.2.2.2, .int bd, .int ((u_106.1, f_107, u_106.2.2.1, u_106.2.2.2).1), .int ((u_106.1, f_107, u_106.2.2.1, u_106.2.2.2).2.1), .int ((u_106.1, f_107, u_106.2.2.1, u_106.2.2.2).2.2.1), .int ((u_106.1, f_107, u_106.2.2.1, u_106.2.2.2).2.2.2)])), (ob, .inl (cZ, 5200, .inl bm.1)), (ok, .inl (cK, 600, .inl km.1))]) [0, 1, 2] rfl) (hD.sub (ws' := [(om, .inr (3, [.int th, .int st, .int lo, .ref ob, .int bm.2.1, .int bm.2.2.1, .int bm.2.2.2.1, .int bm.2.2.2.2, .ref ok, .int km.2, .int qm.1, .int qm.2.1, .int qm.2.2.1, .int qm.2.2.2, .int bd, .int ((u_106.1, f_107, u_106.2.2.1, u_106.2.2.2).1), .int ((u_106.1, f_107, u_106.2.2.1, u_106.2.2.2).2.1), .int ((u_106.1, f_107, u_106.2.2.1, u_106.2.2.2).2.2.1), .int ((u_106.1, f_107, u_106.2.2.1, u_106.2.2.2).2.2.2)])), (ob, .inl (cZ, 5200, .inl bm.1)), (ok, .inl (cK, 600, .inl km.1))]) [0, 1, 2] (by decide) rfl) hS ls (lv_sub hl [2, 3] rfl)
              · refine lv_bipush (v := 7) hx hb dX3_skip_74 (by decide) ?_
                refine lv_goto (tgt := 80) hx hb dX3_skip_76 (by decide) ?_
                refine lv_icmp_ne (tgt := 87) hx hb dX3_skip_80 (by decide) (fun c_80 => ?_) (fun c_80 => ?_)
                · refine lv_iconst (v := 0) hx hb dX3_skip_87 (by decide) ?_
                  refine lv_istore_n (lv' := [(2, .int 0), (0, .ref om), (1, .int nn)]) hx hb dX3_skip_88 rfl hl (by decide) rfl (fun ls hl => ?_)
                  refine lv_aload_n hx hb dX3_skip_89 rfl (lv_at hl 1 rfl) ?_
                  refine lv_aload_n hx hb dX3_skip_90 rfl (lv_at hl 1 rfl) ?_
                  refine va_get (D := (dC, dI)) (ci := 3) (v := .int ym.1) (C := RX3) (T := TX3) (N := 19) hx hb hts inGX3 hown hK hP 0 rfl rfl 15 (by decide) (hts _ wd452) (fun _ h9 => h9) rfl dX3_skip_91 ?_
                  have hPc := hP.sub (ws' := [(om, .inr (3, [.int th, .int st, .int lo, .ref ob, .int bm.2.1, .int bm.2.2.1, .int bm.2.2.2.1, .int bm.2.2.2.2, .ref ok, .int km.2, .int qm.1, .int qm.2.1, .int qm.2.2.1, .int qm.2.2.2, .int bd, .int ym.1, .int ym.2.1, .int ym.2.2.1, .int ym.2.2.2])), (ob, .inl (cZ, 5200, .inl bm.1)), (ok, .inl (cK, 600, .inl km.1))]) [0, 1, 2] rfl
                  have hKc := hK.sub (tys' := [(cZ, .boolean), (cK, .int)]) [0, 1] rfl
                  refine vp_callSi (va_Run.run (va_runV (As := [.int ym.1]) (rest := []) ⟨hx, hb, hml, hown, hts⟩ (mX3_bitAt l dC dI cZ cK om ob ok st lo th bm km qm bd ym ym.1 (t_in (by first | exact hf.2.1 (Or.inl c_27) | exact hf.2.1 (Or.inr ⟨c_35, c_42⟩)))) (cwV 1 hts (gV wd569 wd570 wd21 wd30 wd571) rfl rfl rfl (by decide +kernel) ⟨Nat.le_of_ble_eq_true rfl, Nat.le_of_ble_eq_true rfl⟩) ⟨fb_ro, va_recv hKc hPc (ci := 3) (q0 := 0) rfl rfl, pre_ro hPc hKc hZ⟩ rfl rfl hl.1 rfl (lv_room (Nat.le_of_ble_eq_true rfl)) dX3_skip_94 ⟨Nat.le_of_ble_eq_true rfl, Nat.le_of_ble_eq_true rfl⟩)) (fun r_108 hw_109 => ?_)
                  refine lv_istore_n (lv' := [(3, .int r_108), (2, .int 0), (0, .ref om), (1, .int nn)]) hx hb dX3_skip_97 rfl hl (by decide) rfl (fun ls hl => ?_)
                  refine lv_aload_n hx hb dX3_skip_98 rfl (lv_at hl 2 rfl) ?_
                  have hPc := hP.sub (ws' := [(om, .inr (3, [.int th, .int st, .int lo, .ref ob, .int bm.2.1, .int bm.2.2.1, .int bm.2.2.2.1, .int bm.2.2.2.2, .ref ok, .int km.2, .int qm.1, .int qm.2.1, .int qm.2.2.1, .int qm.2.2.2, .int bd, .int ym.1, .int ym.2.1, .int ym.2.2.1, .int ym.2.2.2])), (ob, .inl (cZ, 5200, .inl bm.1)), (ok, .inl (cK, 600, .inl km.1))]) [0, 1, 2] rfl
                  have hKc := hK.sub (tys' := [(cZ, .boolean), (cK, .int)]) [0, 1] rfl
                  have hDc := hD.sub (ws' := [(om, .inr (3, [.int th, .int st, .int lo, .ref ob, .int bm.2.1, .int bm.2.2.1, .int bm.2.2.2.1, .int bm.2.2.2.2, .ref ok, .int km.2, .int qm.1, .int qm.2.1, .int qm.2.2.1, .int qm.2.2.2, .int bd, .int ym.1, .int ym.2.1, .int ym.2.2.1, .int ym.2.2.2])), (ob, .inl (cZ, 5200, .inl bm.1)), (ok, .inl (cK, 600, .inl km.1))]) [0, 1, 2] (by decide) rfl
                  have hFc := va_free (wc := [(om, .inr (3, [.int th, .int st, .int lo, .ref ob, .int bm.2.1, .int bm.2.2.1, .int bm.2.2.2.1, .int bm.2.2.2.2, .ref ok, .int km.2, .int qm.1, .int qm.2.1, .int qm.2.2.1, .int qm.2.2.2, .int bd, .int ym.1, .int ym.2.1, .int ym.2.2.1, .int ym.2.2.2])), (ob, .inl (cZ, 5200, .inl bm.1)), (ok, .inl (cK, 600, .inl km.1))]) hD hS hA [0, 1, 2] rfl
                  refine va_callv (va_runV (As := []) (rest := []) ⟨hx, hb, hml, hown, hts⟩ (mX3_goOn l dC dI cZ cK om ob ok H.size st lo th bm km qm bd ym (by first | exact hf.2.1 (Or.inl c_27) | exact hf.2.1 (Or.inr ⟨c_35, c_42⟩))) (cwV 0 hts (gV wd572 wd573 wd22 wd30 wd574) rfl rfl rfl (by decide +kernel) ⟨Nat.le_of_ble_eq_true rfl, Nat.le_of_ble_eq_true rfl⟩) ⟨fb_rw, va_recv hKc hPc (ci := 3) (q0 := 0) rfl rfl, pre_rw hPc hKc hDc hZ⟩ rfl rfl hl.1 rfl (lv_room (Nat.le_of_ble_eq_true rfl)) dX3_skip_99 ⟨Nat.le_of_ble_eq_true rfl, Nat.le_of_ble_eq_true rfl⟩) hS (fun q _ h => hFc q h) hFc (fun u_111 t H1 locs ht hvm hw_110 hB hz1 hk1 hS => ?_)
                  obtain ⟨hP1, hD1⟩ := hB
                  rw [ht] at hP1
                  obtain ⟨hP, hD⟩ := va_join (wr := []) (w1 := [(om, .inr (3, [.int th, .int st, .int lo, .ref ob, .int bm.2.1, .int bm.2.2.1, .int bm.2.2.2.1, .int bm.2.2.2.2, .ref ok, .int km.2, .int qm.1, .int qm.2.1, .int qm.2.2.1, .int qm.2.2.2, .int bd, .int u_111.1, .int u_111.2.1, .int u_111.2.2.1, .int u_111.2.2.2])), (ob, .inl (cZ, 5200, .inl bm.1)), (ok, .inl (cK, 600, .inl km.1))]) hP hD [0, 1, 2] [] rfl rfl (by decide) (by decide) hk1 hFc hP1 hD1
                  generalize H1 = H at hP hS ⊢
                  have hP : va_P (dC, dI) vwCl [(om, .inr (3, [.int th, .int st, .int lo, .ref ob, .int bm.2.1, .int bm.2.2.1, .int bm.2.2.2.1, .int bm.2.2.2.2, .ref ok, .int km.2, .int qm.1, .int qm.2.1, .int qm.2.2.1, .int qm.2.2.2, .int bd, .int u_111.1, .int u_111.2.1, .int u_111.2.2.1, .int u_111.2.2.2])), (ob, .inl (cZ, 5200, .inl bm.1)), (ok, .inl (cK, 600, .inl km.1))] H := hP
                  have hD : va_D A [(om, .inr (3, [.int th, .int st, .int lo, .ref ob, .int bm.2.1, .int bm.2.2.1, .int bm.2.2.2.1, .int bm.2.2.2.2, .ref ok, .int km.2, .int qm.1, .int qm.2.1, .int qm.2.2.1, .int qm.2.2.2, .int bd, .int u_111.1, .int u_111.2.1, .int u_111.2.2.1, .int u_111.2.2.2])), (ob, .inl (cZ, 5200, .inl bm.1)), (ok, .inl (cK, 600, .inl km.1))] := hD
                  refine lv_iload_n hx hb dX3_skip_102 rfl (lv_at hl 1 rfl) ?_
                  refine lv_if_eq (tgt := 119) hx hb dX3_skip_103 (by decide) (fun c_103 => ?_) (fun c_103 => absurd c_103 (by decide))
                  obtain ⟨i_112, ei_112⟩ : ∃ y : Int32, y = nn + 1 := ⟨_, rfl⟩
                  refine lv_iinc (v := i_112) (lv' := [(1, .int i_112), (3, .int r_108), (2, .int 0), (0, .ref om)]) hx hb dX3_skip_119 hl (k := 3) rfl (by rw [ei_112]; rfl) (by decide) rfl (fun ls hl => ?_)
                  refine lv_aload_n hx hb dX3_skip_122 rfl (lv_at hl 3 rfl) ?_
                  refine lv_iload_n hx hb dX3_skip_123 rfl (lv_at hl 1 rfl) ?_
                  refine lv_iconst (v := 1) hx hb dX3_skip_124 (by decide) ?_
                  refine lv_icmp_ne (tgt := 137) hx hb dX3_skip_125 (by decide) (fun c_125 => ?_) (fun c_125 => ?_)
                  · refine lv_iconst (v := 0) hx hb dX3_skip_137 (by decide) ?_
                    refine va_put (D := (dC, dI)) (ci := 3) (v := .int 0) (ty := .int) (C := RX3) (T := TX3) (N := 19) hx hb hts inGX3 tyX3 tyX3_ok nmX3 hown hK hP hD hS 0 rfl rfl 17 (by decide) (hts _ wd454) (fun _ h9 => h9) rfl (by decide +kernel) rfl rfl (Nat.le_of_ble_eq_true rfl) dX3_skip_138 (fun H locs hP hD hS => ?_)
                    have hP : va_P (dC, dI) vwCl [(om, .inr (3, [.int th, .int st, .int lo, .ref ob, .int bm.2.1, .int bm.2.2.1, .int bm.2.2.2.1, .int bm.2.2.2.2, .ref ok, .int km.2, .int qm.1, .int qm.2.1, .int qm.2.2.1, .int qm.2.2.2, .int bd, .int u_111.1, .int u_111.2.1, .int 0, .int u_111.2.2.2])), (ob, .inl (cZ, 5200, .inl bm.1)), (ok, .inl (cK, 600, .inl km.1))] H := hP
                    have hD : va_D A [(om, .inr (3, [.int th, .int st, .int lo, .ref ob, .int bm.2.1, .int bm.2.2.1, .int bm.2.2.2.1, .int bm.2.2.2.2, .ref ok, .int km.2, .int qm.1, .int qm.2.1, .int qm.2.2.1, .int qm.2.2.2, .int bd, .int u_111.1, .int u_111.2.1, .int 0, .int u_111.2.2.2])), (ob, .inl (cZ, 5200, .inl bm.1)), (ok, .inl (cK, 600, .inl km.1))] := hD
                    refine lv_aload_n hx hb dX3_skip_141 rfl (lv_at hl 3 rfl) ?_
                    refine va_get (D := (dC, dI)) (ci := 3) (v := .int st) (C := RX3) (T := TX3) (N := 19) hx hb hts inGX3 hown hK hP 0 rfl rfl 1 (by decide) (hts _ wd438) (fun _ h9 => h9) rfl dX3_skip_142 ?_
                    refine lv_iconst (v := 1) hx hb dX3_skip_145 (by decide) ?_
                    refine lv_icmp_le (tgt := 189) hx hb dX3_skip_146 (by decide) (fun c_146 => ?_) (fun c_146 => ?_)
                    · refine lv_goto (tgt := 20) hx hb dX3_skip_189 (by decide) ?_
                      exact ih th bm km qm bd (u_111.1, u_111.2.1, 0, u_111.2.2.2) i_112 (hf.2.2 _ _ (ssX3_skip_20_60 st lo th bm km qm bd ym nn c_27 c_35 c_42 c_50 c_57 c_71 c_80 _ hw_109 _ hw_110 _ ei_112 c_125 c_146)) ((plX3_skip_l20_63 st lo n th bm km qm bd ym nn c_27 c_35 c_42 c_50 c_57 c_71 c_80 _ hw_109 _ hw_110 _ ei_112 c_125 c_146).trans hz) _ _ (hP.sub (ws' := [(om, .inr (3, [.int th, .int st, .int lo, .ref ob, .int bm.2.1, .int bm.2.2.1, .int bm.2.2.2.1, .int bm.2.2.2.2, .ref ok, .int km.2, .int qm.1, .int qm.2.1, .int qm.2.2.1, .int qm.2.2.2, .int bd, .int ((u_111.1, u_111.2.1, 0, u_111.2.2.2).1), .int ((u_111.1, u_111.2.1, 0, u_111.2.2.2).2.1), .int ((u_111.1, u_111.2.1, 0, u_111.2.2.2).2.2.1), .int ((u_111.1, u_111.2.1, 0, u_111.2.2.2).2.2.2)])), (ob, .inl (cZ, 5200, .inl bm.1)), (ok, .inl (cK, 600, .inl km.1))]) [0, 1, 2] rfl) (hD.sub (ws' := [(om, .inr (3, [.int th, .int st, .int lo, .ref ob, .int bm.2.1, .int bm.2.2.1, .int bm.2.2.2.1, .int bm.2.2.2.2, .ref ok, .int km.2, .int qm.1, .int qm.2.1, .int qm.2.2.1, .int qm.2.2.2, .int bd, .int ((u_111.1, u_111.2.1, 0, u_111.2.2.2).1), .int ((u_111.1, u_111.2.1, 0, u_111.2.2.2).2.1), .int ((u_111.1, u_111.2.1, 0, u_111.2.2.2).2.2.1), .int ((u_111.1, u_111.2.1, 0, u_111.2.2.2).2.2.2)])), (ob, .inl (cZ, 5200, .inl bm.1)), (ok, .inl (cK, 600, .inl km.1))]) [0, 1, 2] (by decide) rfl) hS ls (lv_sub hl [3, 0] rfl)
                    · refine lv_aload_n hx hb dX3_skip_149 rfl (lv_at hl 3 rfl) ?_
                      refine va_get (D := (dC, dI)) (ci := 3) (v := .int 0) (C := RX3) (T := TX3) (N := 19) hx hb hts inGX3 hown hK hP 0 rfl rfl 17 (by decide) (hts _ wd454) (fun _ h9 => h9) rfl dX3_skip_150 ?_
                      refine lv_aload_n hx hb dX3_skip_153 rfl (lv_at hl 3 rfl) ?_
                      refine va_get (D := (dC, dI)) (ci := 3) (v := .int st) (C := RX3) (T := TX3) (N := 19) hx hb hts inGX3 hown hK hP 0 rfl rfl 1 (by decide) (hts _ wd438) (fun _ h9 => h9) rfl dX3_skip_154 ?_
                      refine lv_icmp_ne (tgt := 189) hx hb dX3_skip_157 (by decide) (fun c_157 => ?_) (fun c_157 => ?_)
                      · refine lv_goto (tgt := 20) hx hb dX3_skip_189 (by decide) ?_
                        exact ih th bm km qm bd (u_111.1, u_111.2.1, 0, u_111.2.2.2) i_112 (hf.2.2 _ _ (ssX3_skip_20_61 st lo th bm km qm bd ym nn c_27 c_35 c_42 c_50 c_57 c_71 c_80 _ hw_109 _ hw_110 _ ei_112 c_125 c_146 c_157)) ((plX3_skip_l20_64 st lo n th bm km qm bd ym nn c_27 c_35 c_42 c_50 c_57 c_71 c_80 _ hw_109 _ hw_110 _ ei_112 c_125 c_146 c_157).trans hz) _ _ (hP.sub (ws' := [(om, .inr (3, [.int th, .int st, .int lo, .ref ob, .int bm.2.1, .int bm.2.2.1, .int bm.2.2.2.1, .int bm.2.2.2.2, .ref ok, .int km.2, .int qm.1, .int qm.2.1, .int qm.2.2.1, .int qm.2.2.2, .int bd, .int ((u_111.1, u_111.2.1, 0, u_111.2.2.2).1), .int ((u_111.1, u_111.2.1, 0, u_111.2.2.2).2.1), .int ((u_111.1, u_111.2.1, 0, u_111.2.2.2).2.2.1), .int ((u_111.1, u_111.2.1, 0, u_111.2.2.2).2.2.2)])), (ob, .inl (cZ, 5200, .inl bm.1)), (ok, .inl (cK, 600, .inl km.1))]) [0, 1, 2] rfl) (hD.sub (ws' := [(om, .inr (3, [.int th, .int st, .int lo, .ref ob, .int bm.2.1, .int bm.2.2.1, .int bm.2.2.2.1, .int bm.2.2.2.2, .ref ok, .int km.2, .int qm.1, .int qm.2.1, .int qm.2.2.1, .int qm.2.2.2, .int bd, .int ((u_111.1, u_111.2.1, 0, u_111.2.2.2).1), .int ((u_111.1, u_111.2.1, 0, u_111.2.2.2).2.1), .int ((u_111.1, u_111.2.1, 0, u_111.2.2.2).2.2.1), .int ((u_111.1, u_111.2.1, 0, u_111.2.2.2).2.2.2)])), (ob, .inl (cZ, 5200, .inl bm.1)), (ok, .inl (cK, 600, .inl km.1))]) [0, 1, 2] (by decide) rfl) hS ls (lv_sub hl [3, 0] rfl)
                      · refine lv_aload_n hx hb dX3_skip_160 rfl (lv_at hl 3 rfl) ?_
                        refine va_get (D := (dC, dI)) (ci := 3) (v := .int u_111.1) (C := RX3) (T := TX3) (N := 19) hx hb hts inGX3 hown hK hP 0 rfl rfl 15 (by decide) (hts _ wd452) (fun _ h9 => h9) rfl dX3_skip_161 ?_
                        refine lv_bipush (v := 8) hx hb dX3_skip_164 (by decide) ?_
                        refine lv_irem hx hb dX3_skip_166 (by decide) ?_
                        refine lv_if_eq (tgt := 189) hx hb dX3_skip_167 (by decide) (fun c_167 => ?_) (fun c_167 => ?_)
                        · refine lv_goto (tgt := 20) hx hb dX3_skip_189 (by decide) ?_
                          exact ih th bm km qm bd (u_111.1, u_111.2.1, 0, u_111.2.2.2) i_112 (hf.2.2 _ _ (ssX3_skip_20_62 st lo th bm km qm bd ym nn c_27 c_35 c_42 c_50 c_57 c_71 c_80 _ hw_109 _ hw_110 _ ei_112 c_125 c_146 c_157 c_167)) ((plX3_skip_l20_65 st lo n th bm km qm bd ym nn c_27 c_35 c_42 c_50 c_57 c_71 c_80 _ hw_109 _ hw_110 _ ei_112 c_125 c_146 c_157 c_167).trans hz) _ _ (hP.sub (ws' := [(om, .inr (3, [.int th, .int st, .int lo, .ref ob, .int bm.2.1, .int bm.2.2.1, .int bm.2.2.2.1, .int bm.2.2.2.2, .ref ok, .int km.2, .int qm.1, .int qm.2.1, .int qm.2.2.1, .int qm.2.2.2, .int bd, .int ((u_111.1, u_111.2.1, 0, u_111.2.2.2).1), .int ((u_111.1, u_111.2.1, 0, u_111.2.2.2).2.1), .int ((u_111.1, u_111.2.1, 0, u_111.2.2.2).2.2.1), .int ((u_111.1, u_111.2.1, 0, u_111.2.2.2).2.2.2)])), (ob, .inl (cZ, 5200, .inl bm.1)), (ok, .inl (cK, 600, .inl km.1))]) [0, 1, 2] rfl) (hD.sub (ws' := [(om, .inr (3, [.int th, .int st, .int lo, .ref ob, .int bm.2.1, .int bm.2.2.1, .int bm.2.2.2.1, .int bm.2.2.2.2, .ref ok, .int km.2, .int qm.1, .int qm.2.1, .int qm.2.2.1, .int qm.2.2.2, .int bd, .int ((u_111.1, u_111.2.1, 0, u_111.2.2.2).1), .int ((u_111.1, u_111.2.1, 0, u_111.2.2.2).2.1), .int ((u_111.1, u_111.2.1, 0, u_111.2.2.2).2.2.1), .int ((u_111.1, u_111.2.1, 0, u_111.2.2.2).2.2.2)])), (ob, .inl (cZ, 5200, .inl bm.1)), (ok, .inl (cK, 600, .inl km.1))]) [0, 1, 2] (by decide) rfl) hS ls (lv_sub hl [3, 0] rfl)
                        · refine lv_aload_n hx hb dX3_skip_170 rfl (lv_at hl 3 rfl) ?_
                          refine lv_dup hx hb dX3_skip_171 rfl ?_
                          refine va_get (D := (dC, dI)) (ci := 3) (v := .int u_111.2.1) (C := RX3) (T := TX3) (N := 19) hx hb hts inGX3 hown hK hP 0 rfl rfl 16 (by decide) (hts _ wd453) (fun _ h9 => h9) rfl dX3_skip_172 ?_
                          refine lv_iconst (v := 1) hx hb dX3_skip_175 (by decide) ?_
                          refine lv_iadd hx hb dX3_skip_176 ?_
                          refine lv_topi (fun f_113 ef_113 => ?_)
                          refine va_put (D := (dC, dI)) (ci := 3) (v := .int f_113) (ty := .int) (C := RX3) (T := TX3) (N := 19) hx hb hts inGX3 tyX3 tyX3_ok nmX3 hown hK hP hD hS 0 rfl rfl 16 (by decide) (hts _ wd453) (fun _ h9 => h9) rfl (by decide +kernel) rfl rfl (Nat.le_of_ble_eq_true rfl) dX3_skip_177 (fun H locs hP hD hS => ?_)
                          have hP : va_P (dC, dI) vwCl [(om, .inr (3, [.int th, .int st, .int lo, .ref ob, .int bm.2.1, .int bm.2.2.1, .int bm.2.2.2.1, .int bm.2.2.2.2, .ref ok, .int km.2, .int qm.1, .int qm.2.1, .int qm.2.2.1, .int qm.2.2.2, .int bd, .int u_111.1, .int f_113, .int 0, .int u_111.2.2.2])), (ob, .inl (cZ, 5200, .inl bm.1)), (ok, .inl (cK, 600, .inl km.1))] H := hP
                          have hD : va_D A [(om, .inr (3, [.int th, .int st, .int lo, .ref ob, .int bm.2.1, .int bm.2.2.1, .int bm.2.2.2.1, .int bm.2.2.2.2, .ref ok, .int km.2, .int qm.1, .int qm.2.1, .int qm.2.2.1, .int qm.2.2.2, .int bd, .int u_111.1, .int f_113, .int 0, .int u_111.2.2.2])), (ob, .inl (cZ, 5200, .inl bm.1)), (ok, .inl (cK, 600, .inl km.1))] := hD
                          refine lv_aload_n hx hb dX3_skip_180 rfl (lv_at hl 3 rfl) ?_
                          have hPc := hP.sub (ws' := [(om, .inr (3, [.int th, .int st, .int lo, .ref ob, .int bm.2.1, .int bm.2.2.1, .int bm.2.2.2.1, .int bm.2.2.2.2, .ref ok, .int km.2, .int qm.1, .int qm.2.1, .int qm.2.2.1, .int qm.2.2.2, .int bd, .int u_111.1, .int f_113, .int 0, .int u_111.2.2.2])), (ob, .inl (cZ, 5200, .inl bm.1)), (ok, .inl (cK, 600, .inl km.1))]) [0, 1, 2] rfl
                          have hKc := hK.sub (tys' := [(cZ, .boolean), (cK, .int)]) [0, 1] rfl
                          have hDc := hD.sub (ws' := [(om, .inr (3, [.int th, .int st, .int lo, .ref ob, .int bm.2.1, .int bm.2.2.1, .int bm.2.2.2.1, .int bm.2.2.2.2, .ref ok, .int km.2, .int qm.1, .int qm.2.1, .int qm.2.2.1, .int qm.2.2.2, .int bd, .int u_111.1, .int f_113, .int 0, .int u_111.2.2.2])), (ob, .inl (cZ, 5200, .inl bm.1)), (ok, .inl (cK, 600, .inl km.1))]) [0, 1, 2] (by decide) rfl
                          have hFc := va_free (wc := [(om, .inr (3, [.int th, .int st, .int lo, .ref ob, .int bm.2.1, .int bm.2.2.1, .int bm.2.2.2.1, .int bm.2.2.2.2, .ref ok, .int km.2, .int qm.1, .int qm.2.1, .int qm.2.2.1, .int qm.2.2.2, .int bd, .int u_111.1, .int f_113, .int 0, .int u_111.2.2.2])), (ob, .inl (cZ, 5200, .inl bm.1)), (ok, .inl (cK, 600, .inl km.1))]) hD hS hA [0, 1, 2] rfl
                          refine va_callv (va_runV (As := []) (rest := []) ⟨hx, hb, hml, hown, hts⟩ (mX3_goOn l dC dI cZ cK om ob ok H.size st lo th bm km qm bd (u_111.1, f_113, 0, u_111.2.2.2) (sk_tT hf.1 (by first | exact hf.2.1 (Or.inl c_27) | exact hf.2.1 (Or.inr ⟨c_35, c_42⟩)) (by assumption) c_167)) (cwV 0 hts (gV wd572 wd573 wd22 wd30 wd574) rfl rfl rfl (by decide +kernel) ⟨Nat.le_of_ble_eq_true rfl, Nat.le_of_ble_eq_true rfl⟩) ⟨fb_rw, va_recv hKc hPc (ci := 3) (q0 := 0) rfl rfl, pre_rw hPc hKc hDc hZ⟩ rfl rfl hl.1 rfl (lv_room (Nat.le_of_ble_eq_true rfl)) dX3_skip_181 ⟨Nat.le_of_ble_eq_true rfl, Nat.le_of_ble_eq_true rfl⟩) hS (fun q _ h => hFc q h) hFc (fun u_115 t H1 locs ht hvm hw_114 hB hz1 hk1 hS => ?_)
                          obtain ⟨hP1, hD1⟩ := hB
                          rw [ht] at hP1
                          obtain ⟨hP, hD⟩ := va_join (wr := []) (w1 := [(om, .inr (3, [.int th, .int st, .int lo, .ref ob, .int bm.2.1, .int bm.2.2.1, .int bm.2.2.2.1, .int bm.2.2.2.2, .ref ok, .int km.2, .int qm.1, .int qm.2.1, .int qm.2.2.1, .int qm.2.2.2, .int bd, .int u_115.1, .int u_115.2.1, .int u_115.2.2.1, .int u_115.2.2.2])), (ob, .inl (cZ, 5200, .inl bm.1)), (ok, .inl (cK, 600, .inl km.1))]) hP hD [0, 1, 2] [] rfl rfl (by decide) (by decide) hk1 hFc hP1 hD1
                          generalize H1 = H at hP hS ⊢
                          have hP : va_P (dC, dI) vwCl [(om, .inr (3, [.int th, .int st, .int lo, .ref ob, .int bm.2.1, .int bm.2.2.1, .int bm.2.2.2.1, .int bm.2.2.2.2, .ref ok, .int km.2, .int qm.1, .int qm.2.1, .int qm.2.2.1, .int qm.2.2.2, .int bd, .int u_115.1, .int u_115.2.1, .int u_115.2.2.1, .int u_115.2.2.2])), (ob, .inl (cZ, 5200, .inl bm.1)), (ok, .inl (cK, 600, .inl km.1))] H := hP
                          have hD : va_D A [(om, .inr (3, [.int th, .int st, .int lo, .ref ob, .int bm.2.1, .int bm.2.2.1, .int bm.2.2.2.1, .int bm.2.2.2.2, .ref ok, .int km.2, .int qm.1, .int qm.2.1, .int qm.2.2.1, .int qm.2.2.2, .int bd, .int u_115.1, .int u_115.2.1, .int u_115.2.2.1, .int u_115.2.2.2])), (ob, .inl (cZ, 5200, .inl bm.1)), (ok, .inl (cK, 600, .inl km.1))] := hD
                          refine lv_aload_n hx hb dX3_skip_184 rfl (lv_at hl 3 rfl) ?_
                          refine lv_iconst (v := 0) hx hb dX3_skip_185 (by decide) ?_
                          refine va_put (D := (dC, dI)) (ci := 3) (v := .int 0) (ty := .int) (C := RX3) (T := TX3) (N := 19) hx hb hts inGX3 tyX3 tyX3_ok nmX3 hown hK hP hD hS 0 rfl rfl 17 (by decide) (hts _ wd454) (fun _ h9 => h9) rfl (by decide +kernel) rfl rfl (Nat.le_of_ble_eq_true rfl) dX3_skip_186 (fun H locs hP hD hS => ?_)
                          have hP : va_P (dC, dI) vwCl [(om, .inr (3, [.int th, .int st, .int lo, .ref ob, .int bm.2.1, .int bm.2.2.1, .int bm.2.2.2.1, .int bm.2.2.2.2, .ref ok, .int km.2, .int qm.1, .int qm.2.1, .int qm.2.2.1, .int qm.2.2.2, .int bd, .int u_115.1, .int u_115.2.1, .int 0, .int u_115.2.2.2])), (ob, .inl (cZ, 5200, .inl bm.1)), (ok, .inl (cK, 600, .inl km.1))] H := hP
                          have hD : va_D A [(om, .inr (3, [.int th, .int st, .int lo, .ref ob, .int bm.2.1, .int bm.2.2.1, .int bm.2.2.2.1, .int bm.2.2.2.2, .ref ok, .int km.2, .int qm.1, .int qm.2.1, .int qm.2.2.1, .int qm.2.2.2, .int bd, .int u_115.1, .int u_115.2.1, .int 0, .int u_115.2.2.2])), (ob, .inl (cZ, 5200, .inl bm.1)), (ok, .inl (cK, 600, .inl km.1))] := hD
                          refine lv_goto (tgt := 20) hx hb dX3_skip_189 (by decide) ?_
                          exact ih th bm km qm bd (u_115.1, u_115.2.1, 0, u_115.2.2.2) i_112 (hf.2.2 _ _ (ssX3_skip_20_63 st lo th bm km qm bd ym nn c_27 c_35 c_42 c_50 c_57 c_71 c_80 _ hw_109 _ hw_110 _ ei_112 c_125 c_146 c_157 c_167 _ ef_113 _ hw_114)) ((plX3_skip_l20_66 st lo n th bm km qm bd ym nn c_27 c_35 c_42 c_50 c_57 c_71 c_80 _ hw_109 _ hw_110 _ ei_112 c_125 c_146 c_157 c_167 _ ef_113 _ hw_114).trans hz) _ _ (hP.sub (ws' := [(om, .inr (3, [.int th, .int st, .int lo, .ref ob, .int bm.2.1, .int bm.2.2.1, .int bm.2.2.2.1, .int bm.2.2.2.2, .ref ok, .int km.2, .int qm.1, .int qm.2.1, .int qm.2.2.1, .int qm.2.2.2, .int bd, .int ((u_115.1, u_115.2.1, 0, u_115.2.2.2).1), .int ((u_115.1, u_115.2.1, 0, u_115.2.2.2).2.1), .int ((u_115.1, u_115.2.1, 0, u_115.2.2.2).2.2.1), .int ((u_115.1, u_115.2.1, 0, u_115.2.2.2).2.2.2)])), (ob, .inl (cZ, 5200, .inl bm.1)), (ok, .inl (cK, 600, .inl km.1))]) [0, 1, 2] rfl) (hD.sub (ws' := [(om, .inr (3, [.int th, .int st, .int lo, .ref ob, .int bm.2.1, .int bm.2.2.1, .int bm.2.2.2.1, .int bm.2.2.2.2, .ref ok, .int km.2, .int qm.1, .int qm.2.1, .int qm.2.2.1, .int qm.2.2.2, .int bd, .int ((u_115.1, u_115.2.1, 0, u_115.2.2.2).1), .int ((u_115.1, u_115.2.1, 0, u_115.2.2.2).2.1), .int ((u_115.1, u_115.2.1, 0, u_115.2.2.2).2.2.1), .int ((u_115.1, u_115.2.1, 0, u_115.2.2.2).2.2.2)])), (ob, .inl (cZ, 5200, .inl bm.1)), (ok, .inl (cK, 600, .inl km.1))]) [0, 1, 2] (by decide) rfl) hS ls (lv_sub hl [3, 0] rfl)
                  · refine lv_aload_n hx hb dX3_skip_128 rfl (lv_at hl 3 rfl) ?_
                    refine va_get (D := (dC, dI)) (ci := 3) (v := .int u_111.2.2.1) (C := RX3) (T := TX3) (N := 19) hx hb hts inGX3 hown hK hP 0 rfl rfl 17 (by decide) (hts _ wd454) (fun _ h9 => h9) rfl dX3_skip_129 ?_
                    refine lv_iconst (v := 1) hx hb dX3_skip_132 (by decide) ?_
                    refine lv_iadd hx hb dX3_skip_133 ?_
                    refine lv_goto (tgt := 138) hx hb dX3_skip_134 (by decide) ?_
                    refine lv_topi (fun f_116 ef_116 => ?_)
                    refine va_put (D := (dC, dI)) (ci := 3) (v := .int f_116) (ty := .int) (C := RX3) (T := TX3) (N := 19) hx hb hts inGX3 tyX3 tyX3_ok nmX3 hown hK hP hD hS 0 rfl rfl 17 (by decide) (hts _ wd454) (fun _ h9 => h9) rfl (by decide +kernel) rfl rfl (Nat.le_of_ble_eq_true rfl) dX3_skip_138 (fun H locs hP hD hS => ?_)
                    have hP : va_P (dC, dI) vwCl [(om, .inr (3, [.int th, .int st, .int lo, .ref ob, .int bm.2.1, .int bm.2.2.1, .int bm.2.2.2.1, .int bm.2.2.2.2, .ref ok, .int km.2, .int qm.1, .int qm.2.1, .int qm.2.2.1, .int qm.2.2.2, .int bd, .int u_111.1, .int u_111.2.1, .int f_116, .int u_111.2.2.2])), (ob, .inl (cZ, 5200, .inl bm.1)), (ok, .inl (cK, 600, .inl km.1))] H := hP
                    have hD : va_D A [(om, .inr (3, [.int th, .int st, .int lo, .ref ob, .int bm.2.1, .int bm.2.2.1, .int bm.2.2.2.1, .int bm.2.2.2.2, .ref ok, .int km.2, .int qm.1, .int qm.2.1, .int qm.2.2.1, .int qm.2.2.2, .int bd, .int u_111.1, .int u_111.2.1, .int f_116, .int u_111.2.2.2])), (ob, .inl (cZ, 5200, .inl bm.1)), (ok, .inl (cK, 600, .inl km.1))] := hD
                    refine lv_aload_n hx hb dX3_skip_141 rfl (lv_at hl 3 rfl) ?_
                    refine va_get (D := (dC, dI)) (ci := 3) (v := .int st) (C := RX3) (T := TX3) (N := 19) hx hb hts inGX3 hown hK hP 0 rfl rfl 1 (by decide) (hts _ wd438) (fun _ h9 => h9) rfl dX3_skip_142 ?_
                    refine lv_iconst (v := 1) hx hb dX3_skip_145 (by decide) ?_
                    refine lv_icmp_le (tgt := 189) hx hb dX3_skip_146 (by decide) (fun c_146 => ?_) (fun c_146 => ?_)
                    · refine lv_goto (tgt := 20) hx hb dX3_skip_189 (by decide) ?_
                      exact ih th bm km qm bd (u_111.1, u_111.2.1, f_116, u_111.2.2.2) i_112 (hf.2.2 _ _ (ssX3_skip_20_64 st lo th bm km qm bd ym nn c_27 c_35 c_42 c_50 c_57 c_71 c_80 _ hw_109 _ hw_110 _ ei_112 c_125 _ ef_116 c_146)) ((plX3_skip_l20_67 st lo n th bm km qm bd ym nn c_27 c_35 c_42 c_50 c_57 c_71 c_80 _ hw_109 _ hw_110 _ ei_112 c_125 _ ef_116 c_146).trans hz) _ _ (hP.sub (ws' := [(om, .inr (3, [.int th, .int st, .int lo, .ref ob, .int bm.2.1, .int bm.2.2.1, .int bm.2.2.2.1, .int bm.2.2.2.2, .ref ok, .int km.2, .int qm.1, .int qm.2.1, .int qm.2.2.1, .int qm.2.2.2, .int bd, .int ((u_111.1, u_111.2.1, f_116, u_111.2.2.2).1), .int ((u_111.1, u_111.2.1, f_116, u_111.2.2.2).2.1), .int ((u_111.1, u_111.2.1, f_116, u_111.2.2.2).2.2.1), .int ((u_111.1, u_111.2.1, f_116, u_111.2.2.2).2.2.2)])), (ob, .inl (cZ, 5200, .inl bm.1)), (ok, .inl (cK, 600, .inl km.1))]) [0, 1, 2] rfl) (hD.sub (ws' := [(om, .inr (3, [.int th, .int st, .int lo, .ref ob, .int bm.2.1, .int bm.2.2.1, .int bm.2.2.2.1, .int bm.2.2.2.2, .ref ok, .int km.2, .int qm.1, .int qm.2.1, .int qm.2.2.1, .int qm.2.2.2, .int bd, .int ((u_111.1, u_111.2.1, f_116, u_111.2.2.2).1), .int ((u_111.1, u_111.2.1, f_116, u_111.2.2.2).2.1), .int ((u_111.1, u_111.2.1, f_116, u_111.2.2.2).2.2.1), .int ((u_111.1, u_111.2.1, f_116, u_111.2.2.2).2.2.2)])), (ob, .inl (cZ, 5200, .inl bm.1)), (ok, .inl (cK, 600, .inl km.1))]) [0, 1, 2] (by decide) rfl) hS ls (lv_sub hl [3, 0] rfl)
                    · refine lv_aload_n hx hb dX3_skip_149 rfl (lv_at hl 3 rfl) ?_
                      refine va_get (D := (dC, dI)) (ci := 3) (v := .int f_116) (C := RX3) (T := TX3) (N := 19) hx hb hts inGX3 hown hK hP 0 rfl rfl 17 (by decide) (hts _ wd454) (fun _ h9 => h9) rfl dX3_skip_150 ?_
                      refine lv_aload_n hx hb dX3_skip_153 rfl (lv_at hl 3 rfl) ?_
                      refine va_get (D := (dC, dI)) (ci := 3) (v := .int st) (C := RX3) (T := TX3) (N := 19) hx hb hts inGX3 hown hK hP 0 rfl rfl 1 (by decide) (hts _ wd438) (fun _ h9 => h9) rfl dX3_skip_154 ?_
                      refine lv_icmp_ne (tgt := 189) hx hb dX3_skip_157 (by decide) (fun c_157 => ?_) (fun c_157 => ?_)
                      · refine lv_goto (tgt := 20) hx hb dX3_skip_189 (by decide) ?_
                        exact ih th bm km qm bd (u_111.1, u_111.2.1, f_116, u_111.2.2.2) i_112 (hf.2.2 _ _ (ssX3_skip_20_65 st lo th bm km qm bd ym nn c_27 c_35 c_42 c_50 c_57 c_71 c_80 _ hw_109 _ hw_110 _ ei_112 c_125 _ ef_116 c_146 c_157)) ((plX3_skip_l20_68 st lo n th bm km qm bd ym nn c_27 c_35 c_42 c_50 c_57 c_71 c_80 _ hw_109 _ hw_110 _ ei_112 c_125 _ ef_116 c_146 c_157).trans hz) _ _ (hP.sub (ws' := [(om, .inr (3, [.int th, .int st, .int lo, .ref ob, .int bm.2.1, .int bm.2.2.1, .int bm.2.2.2.1, .int bm.2.2.2.2, .ref ok, .int km.2, .int qm.1, .int qm.2.1, .int qm.2.2.1, .int qm.2.2.2, .int bd, .int ((u_111.1, u_111.2.1, f_116, u_111.2.2.2).1), .int ((u_111.1, u_111.2.1, f_116, u_111.2.2.2).2.1), .int ((u_111.1, u_111.2.1, f_116, u_111.2.2.2).2.2.1), .int ((u_111.1, u_111.2.1, f_116, u_111.2.2.2).2.2.2)])), (ob, .inl (cZ, 5200, .inl bm.1)), (ok, .inl (cK, 600, .inl km.1))]) [0, 1, 2] rfl) (hD.sub (ws' := [(om, .inr (3, [.int th, .int st, .int lo, .ref ob, .int bm.2.1, .int bm.2.2.1, .int bm.2.2.2.1, .int bm.2.2.2.2, .ref ok, .int km.2, .int qm.1, .int qm.2.1, .int qm.2.2.1, .int qm.2.2.2, .int bd, .int ((u_111.1, u_111.2.1, f_116, u_111.2.2.2).1), .int ((u_111.1, u_111.2.1, f_116, u_111.2.2.2).2.1), .int ((u_111.1, u_111.2.1, f_116, u_111.2.2.2).2.2.1), .int ((u_111.1, u_111.2.1, f_116, u_111.2.2.2).2.2.2)])), (ob, .inl (cZ, 5200, .inl bm.1)), (ok, .inl (cK, 600, .inl km.1))]) [0, 1, 2] (by decide) rfl) hS ls (lv_sub hl [3, 0] rfl)
                      · refine lv_aload_n hx hb dX3_skip_160 rfl (lv_at hl 3 rfl) ?_
                        refine va_get (D := (dC, dI)) (ci := 3) (v := .int u_111.1) (C := RX3) (T := TX3) (N := 19) hx hb hts inGX3 hown hK hP 0 rfl rfl 15 (by decide) (hts _ wd452) (fun _ h9 => h9) rfl dX3_skip_161 ?_
                        refine lv_bipush (v := 8) hx hb dX3_skip_164 (by decide) ?_
                        refine lv_irem hx hb dX3_skip_166 (by decide) ?_
                        refine lv_if_eq (tgt := 189) hx hb dX3_skip_167 (by decide) (fun c_167 => ?_) (fun c_167 => ?_)
                        · refine lv_goto (tgt := 20) hx hb dX3_skip_189 (by decide) ?_
                          exact ih th bm km qm bd (u_111.1, u_111.2.1, f_116, u_111.2.2.2) i_112 (hf.2.2 _ _ (ssX3_skip_20_66 st lo th bm km qm bd ym nn c_27 c_35 c_42 c_50 c_57 c_71 c_80 _ hw_109 _ hw_110 _ ei_112 c_125 _ ef_116 c_146 c_157 c_167)) ((plX3_skip_l20_69 st lo n th bm km qm bd ym nn c_27 c_35 c_42 c_50 c_57 c_71 c_80 _ hw_109 _ hw_110 _ ei_112 c_125 _ ef_116 c_146 c_157 c_167).trans hz) _ _ (hP.sub (ws' := [(om, .inr (3, [.int th, .int st, .int lo, .ref ob, .int bm.2.1, .int bm.2.2.1, .int bm.2.2.2.1, .int bm.2.2.2.2, .ref ok, .int km.2, .int qm.1, .int qm.2.1, .int qm.2.2.1, .int qm.2.2.2, .int bd, .int ((u_111.1, u_111.2.1, f_116, u_111.2.2.2).1), .int ((u_111.1, u_111.2.1, f_116, u_111.2.2.2).2.1), .int ((u_111.1, u_111.2.1, f_116, u_111.2.2.2).2.2.1), .int ((u_111.1, u_111.2.1, f_116, u_111.2.2.2).2.2.2)])), (ob, .inl (cZ, 5200, .inl bm.1)), (ok, .inl (cK, 600, .inl km.1))]) [0, 1, 2] rfl) (hD.sub (ws' := [(om, .inr (3, [.int th, .int st, .int lo, .ref ob, .int bm.2.1, .int bm.2.2.1, .int bm.2.2.2.1, .int bm.2.2.2.2, .ref ok, .int km.2, .int qm.1, .int qm.2.1, .int qm.2.2.1, .int qm.2.2.2, .int bd, .int ((u_111.1, u_111.2.1, f_116, u_111.2.2.2).1), .int ((u_111.1, u_111.2.1, f_116, u_111.2.2.2).2.1), .int ((u_111.1, u_111.2.1, f_116, u_111.2.2.2).2.2.1), .int ((u_111.1, u_111.2.1, f_116, u_111.2.2.2).2.2.2)])), (ob, .inl (cZ, 5200, .inl bm.1)), (ok, .inl (cK, 600, .inl km.1))]) [0, 1, 2] (by decide) rfl) hS ls (lv_sub hl [3, 0] rfl)
                        · refine lv_aload_n hx hb dX3_skip_170 rfl (lv_at hl 3 rfl) ?_
                          refine lv_dup hx hb dX3_skip_171 rfl ?_
                          refine va_get (D := (dC, dI)) (ci := 3) (v := .int u_111.2.1) (C := RX3) (T := TX3) (N := 19) hx hb hts inGX3 hown hK hP 0 rfl rfl 16 (by decide) (hts _ wd453) (fun _ h9 => h9) rfl dX3_skip_172 ?_
                          refine lv_iconst (v := 1) hx hb dX3_skip_175 (by decide) ?_
                          refine lv_iadd hx hb dX3_skip_176 ?_
                          refine lv_topi (fun f_117 ef_117 => ?_)
                          refine va_put (D := (dC, dI)) (ci := 3) (v := .int f_117) (ty := .int) (C := RX3) (T := TX3) (N := 19) hx hb hts inGX3 tyX3 tyX3_ok nmX3 hown hK hP hD hS 0 rfl rfl 16 (by decide) (hts _ wd453) (fun _ h9 => h9) rfl (by decide +kernel) rfl rfl (Nat.le_of_ble_eq_true rfl) dX3_skip_177 (fun H locs hP hD hS => ?_)
                          have hP : va_P (dC, dI) vwCl [(om, .inr (3, [.int th, .int st, .int lo, .ref ob, .int bm.2.1, .int bm.2.2.1, .int bm.2.2.2.1, .int bm.2.2.2.2, .ref ok, .int km.2, .int qm.1, .int qm.2.1, .int qm.2.2.1, .int qm.2.2.2, .int bd, .int u_111.1, .int f_117, .int f_116, .int u_111.2.2.2])), (ob, .inl (cZ, 5200, .inl bm.1)), (ok, .inl (cK, 600, .inl km.1))] H := hP
                          have hD : va_D A [(om, .inr (3, [.int th, .int st, .int lo, .ref ob, .int bm.2.1, .int bm.2.2.1, .int bm.2.2.2.1, .int bm.2.2.2.2, .ref ok, .int km.2, .int qm.1, .int qm.2.1, .int qm.2.2.1, .int qm.2.2.2, .int bd, .int u_111.1, .int f_117, .int f_116, .int u_111.2.2.2])), (ob, .inl (cZ, 5200, .inl bm.1)), (ok, .inl (cK, 600, .inl km.1))] := hD
                          refine lv_aload_n hx hb dX3_skip_180 rfl (lv_at hl 3 rfl) ?_
                          have hPc := hP.sub (ws' := [(om, .inr (3, [.int th, .int st, .int lo, .ref ob, .int bm.2.1, .int bm.2.2.1, .int bm.2.2.2.1, .int bm.2.2.2.2, .ref ok, .int km.2, .int qm.1, .int qm.2.1, .int qm.2.2.1, .int qm.2.2.2, .int bd, .int u_111.1, .int f_117, .int f_116, .int u_111.2.2.2])), (ob, .inl (cZ, 5200, .inl bm.1)), (ok, .inl (cK, 600, .inl km.1))]) [0, 1, 2] rfl
                          have hKc := hK.sub (tys' := [(cZ, .boolean), (cK, .int)]) [0, 1] rfl
                          have hDc := hD.sub (ws' := [(om, .inr (3, [.int th, .int st, .int lo, .ref ob, .int bm.2.1, .int bm.2.2.1, .int bm.2.2.2.1, .int bm.2.2.2.2, .ref ok, .int km.2, .int qm.1, .int qm.2.1, .int qm.2.2.1, .int qm.2.2.2, .int bd, .int u_111.1, .int f_117, .int f_116, .int u_111.2.2.2])), (ob, .inl (cZ, 5200, .inl bm.1)), (ok, .inl (cK, 600, .inl km.1))]) [0, 1, 2] (by decide) rfl
                          have hFc := va_free (wc := [(om, .inr (3, [.int th, .int st, .int lo, .ref ob, .int bm.2.1, .int bm.2.2.1, .int bm.2.2.2.1, .int bm.2.2.2.2, .ref ok, .int km.2, .int qm.1, .int qm.2.1, .int qm.2.2.1, .int qm.2.2.2, .int bd, .int u_111.1, .int f_117, .int f_116, .int u_111.2.2.2])), (ob, .inl (cZ, 5200, .inl bm.1)), (ok, .inl (cK, 600, .inl km.1))]) hD hS hA [0, 1, 2] rfl
                          refine va_callv (va_runV (As := []) (rest := []) ⟨hx, hb, hml, hown, hts⟩ (mX3_goOn l dC dI cZ cK om ob ok H.size st lo th bm km qm bd (u_111.1, f_117, f_116, u_111.2.2.2) (sk_tT hf.1 (by first | exact hf.2.1 (Or.inl c_27) | exact hf.2.1 (Or.inr ⟨c_35, c_42⟩)) (by assumption) c_167)) (cwV 0 hts (gV wd572 wd573 wd22 wd30 wd574) rfl rfl rfl (by decide +kernel) ⟨Nat.le_of_ble_eq_true rfl, Nat.le_of_ble_eq_true rfl⟩) ⟨fb_rw, va_recv hKc hPc (ci := 3) (q0 := 0) rfl rfl, pre_rw hPc hKc hDc hZ⟩ rfl rfl hl.1 rfl (lv_room (Nat.le_of_ble_eq_true rfl)) dX3_skip_181 ⟨Nat.le_of_ble_eq_true rfl, Nat.le_of_ble_eq_true rfl⟩) hS (fun q _ h => hFc q h) hFc (fun u_119 t H1 locs ht hvm hw_118 hB hz1 hk1 hS => ?_)
                          obtain ⟨hP1, hD1⟩ := hB
                          rw [ht] at hP1
                          obtain ⟨hP, hD⟩ := va_join (wr := []) (w1 := [(om, .inr (3, [.int th, .int st, .int lo, .ref ob, .int bm.2.1, .int bm.2.2.1, .int bm.2.2.2.1, .int bm.2.2.2.2, .ref ok, .int km.2, .int qm.1, .int qm.2.1, .int qm.2.2.1, .int qm.2.2.2, .int bd, .int u_119.1, .int u_119.2.1, .int u_119.2.2.1, .int u_119.2.2.2])), (ob, .inl (cZ, 5200, .inl bm.1)), (ok, .inl (cK, 600, .inl km.1))]) hP hD [0, 1, 2] [] rfl rfl (by decide) (by decide) hk1 hFc hP1 hD1
                          generalize H1 = H at hP hS ⊢
                          have hP : va_P (dC, dI) vwCl [(om, .inr (3, [.int th, .int st, .int lo, .ref ob, .int bm.2.1, .int bm.2.2.1, .int bm.2.2.2.1, .int bm.2.2.2.2, .ref ok, .int km.2, .int qm.1, .int qm.2.1, .int qm.2.2.1, .int qm.2.2.2, .int bd, .int u_119.1, .int u_119.2.1, .int u_119.2.2.1, .int u_119.2.2.2])), (ob, .inl (cZ, 5200, .inl bm.1)), (ok, .inl (cK, 600, .inl km.1))] H := hP
                          have hD : va_D A [(om, .inr (3, [.int th, .int st, .int lo, .ref ob, .int bm.2.1, .int bm.2.2.1, .int bm.2.2.2.1, .int bm.2.2.2.2, .ref ok, .int km.2, .int qm.1, .int qm.2.1, .int qm.2.2.1, .int qm.2.2.2, .int bd, .int u_119.1, .int u_119.2.1, .int u_119.2.2.1, .int u_119.2.2.2])), (ob, .inl (cZ, 5200, .inl bm.1)), (ok, .inl (cK, 600, .inl km.1))] := hD
                          refine lv_aload_n hx hb dX3_skip_184 rfl (lv_at hl 3 rfl) ?_
                          refine lv_iconst (v := 0) hx hb dX3_skip_185 (by decide) ?_
                          refine va_put (D := (dC, dI)) (ci := 3) (v := .int 0) (ty := .int) (C := RX3) (T := TX3) (N := 19) hx hb hts inGX3 tyX3 tyX3_ok nmX3 hown hK hP hD hS 0 rfl rfl 17 (by decide) (hts _ wd454) (fun _ h9 => h9) rfl (by decide +kernel) rfl rfl (Nat.le_of_ble_eq_true rfl) dX3_skip_186 (fun H locs hP hD hS => ?_)
                          have hP : va_P (dC, dI) vwCl [(om, .inr (3, [.int th, .int st, .int lo, .ref ob, .int bm.2.1, .int bm.2.2.1, .int bm.2.2.2.1, .int bm.2.2.2.2, .ref ok, .int km.2, .int qm.1, .int qm.2.1, .int qm.2.2.1, .int qm.2.2.2, .int bd, .int u_119.1, .int u_119.2.1, .int 0, .int u_119.2.2.2])), (ob, .inl (cZ, 5200, .inl bm.1)), (ok, .inl (cK, 600, .inl km.1))] H := hP
                          have hD : va_D A [(om, .inr (3, [.int th, .int st, .int lo, .ref ob, .int bm.2.1, .int bm.2.2.1, .int bm.2.2.2.1, .int bm.2.2.2.2, .ref ok, .int km.2, .int qm.1, .int qm.2.1, .int qm.2.2.1, .int qm.2.2.2, .int bd, .int u_119.1, .int u_119.2.1, .int 0, .int u_119.2.2.2])), (ob, .inl (cZ, 5200, .inl bm.1)), (ok, .inl (cK, 600, .inl km.1))] := hD
                          refine lv_goto (tgt := 20) hx hb dX3_skip_189 (by decide) ?_
                          exact ih th bm km qm bd (u_119.1, u_119.2.1, 0, u_119.2.2.2) i_112 (hf.2.2 _ _ (ssX3_skip_20_67 st lo th bm km qm bd ym nn c_27 c_35 c_42 c_50 c_57 c_71 c_80 _ hw_109 _ hw_110 _ ei_112 c_125 _ ef_116 c_146 c_157 c_167 _ ef_117 _ hw_118)) ((plX3_skip_l20_70 st lo n th bm km qm bd ym nn c_27 c_35 c_42 c_50 c_57 c_71 c_80 _ hw_109 _ hw_110 _ ei_112 c_125 _ ef_116 c_146 c_157 c_167 _ ef_117 _ hw_118).trans hz) _ _ (hP.sub (ws' := [(om, .inr (3, [.int th, .int st, .int lo, .ref ob, .int bm.2.1, .int bm.2.2.1, .int bm.2.2.2.1, .int bm.2.2.2.2, .ref ok, .int km.2, .int qm.1, .int qm.2.1, .int qm.2.2.1, .int qm.2.2.2, .int bd, .int ((u_119.1, u_119.2.1, 0, u_119.2.2.2).1), .int ((u_119.1, u_119.2.1, 0, u_119.2.2.2).2.1), .int ((u_119.1, u_119.2.1, 0, u_119.2.2.2).2.2.1), .int ((u_119.1, u_119.2.1, 0, u_119.2.2.2).2.2.2)])), (ob, .inl (cZ, 5200, .inl bm.1)), (ok, .inl (cK, 600, .inl km.1))]) [0, 1, 2] rfl) (hD.sub (ws' := [(om, .inr (3, [.int th, .int st, .int lo, .ref ob, .int bm.2.1, .int bm.2.2.1, .int bm.2.2.2.1, .int bm.2.2.2.2, .ref ok, .int km.2, .int qm.1, .int qm.2.1, .int qm.2.2.1, .int qm.2.2.2, .int bd, .int ((u_119.1, u_119.2.1, 0, u_119.2.2.2).1), .int ((u_119.1, u_119.2.1, 0, u_119.2.2.2).2.1), .int ((u_119.1, u_119.2.1, 0, u_119.2.2.2).2.2.1), .int ((u_119.1, u_119.2.1, 0, u_119.2.2.2).2.2.2)])), (ob, .inl (cZ, 5200, .inl bm.1)), (ok, .inl (cK, 600, .inl km.1))]) [0, 1, 2] (by decide) rfl) hS ls (lv_sub hl [3, 0] rfl)
                · refine lv_iconst (v := 1) hx hb dX3_skip_83 (by decide) ?_
                  refine lv_goto (tgt := 88) hx hb dX3_skip_84 (by decide) ?_
                  refine lv_istore_n (lv' := [(2, .int 1), (0, .ref om), (1, .int nn)]) hx hb dX3_skip_88 rfl hl (by decide) rfl (fun ls hl => ?_)
                  refine lv_aload_n hx hb dX3_skip_89 rfl (lv_at hl 1 rfl) ?_
                  refine lv_aload_n hx hb dX3_skip_90 rfl (lv_at hl 1 rfl) ?_
                  refine va_get (D := (dC, dI)) (ci := 3) (v := .int ym.1) (C := RX3) (T := TX3) (N := 19) hx hb hts inGX3 hown hK hP 0 rfl rfl 15 (by decide) (hts _ wd452) (fun _ h9 => h9) rfl dX3_skip_91 ?_
                  have hPc := hP.sub (ws' := [(om, .inr (3, [.int th, .int st, .int lo, .ref ob, .int bm.2.1, .int bm.2.2.1, .int bm.2.2.2.1, .int bm.2.2.2.2, .ref ok, .int km.2, .int qm.1, .int qm.2.1, .int qm.2.2.1, .int qm.2.2.2, .int bd, .int ym.1, .int ym.2.1, .int ym.2.2.1, .int ym.2.2.2])), (ob, .inl (cZ, 5200, .inl bm.1)), (ok, .inl (cK, 600, .inl km.1))]) [0, 1, 2] rfl
                  have hKc := hK.sub (tys' := [(cZ, .boolean), (cK, .int)]) [0, 1] rfl
                  refine vp_callSi (va_Run.run (va_runV (As := [.int ym.1]) (rest := []) ⟨hx, hb, hml, hown, hts⟩ (mX3_bitAt l dC dI cZ cK om ob ok st lo th bm km qm bd ym ym.1 (t_in (by first | exact hf.2.1 (Or.inl c_27) | exact hf.2.1 (Or.inr ⟨c_35, c_42⟩)))) (cwV 1 hts (gV wd569 wd570 wd21 wd30 wd571) rfl rfl rfl (by decide +kernel) ⟨Nat.le_of_ble_eq_true rfl, Nat.le_of_ble_eq_true rfl⟩) ⟨fb_ro, va_recv hKc hPc (ci := 3) (q0 := 0) rfl rfl, pre_ro hPc hKc hZ⟩ rfl rfl hl.1 rfl (lv_room (Nat.le_of_ble_eq_true rfl)) dX3_skip_94 ⟨Nat.le_of_ble_eq_true rfl, Nat.le_of_ble_eq_true rfl⟩)) (fun r_120 hw_121 => ?_)
                  refine lv_istore_n (lv' := [(3, .int r_120), (2, .int 1), (0, .ref om), (1, .int nn)]) hx hb dX3_skip_97 rfl hl (by decide) rfl (fun ls hl => ?_)
                  refine lv_aload_n hx hb dX3_skip_98 rfl (lv_at hl 2 rfl) ?_
                  have hPc := hP.sub (ws' := [(om, .inr (3, [.int th, .int st, .int lo, .ref ob, .int bm.2.1, .int bm.2.2.1, .int bm.2.2.2.1, .int bm.2.2.2.2, .ref ok, .int km.2, .int qm.1, .int qm.2.1, .int qm.2.2.1, .int qm.2.2.2, .int bd, .int ym.1, .int ym.2.1, .int ym.2.2.1, .int ym.2.2.2])), (ob, .inl (cZ, 5200, .inl bm.1)), (ok, .inl (cK, 600, .inl km.1))]) [0, 1, 2] rfl
                  have hKc := hK.sub (tys' := [(cZ, .boolean), (cK, .int)]) [0, 1] rfl
                  have hDc := hD.sub (ws' := [(om, .inr (3, [.int th, .int st, .int lo, .ref ob, .int bm.2.1, .int bm.2.2.1, .int bm.2.2.2.1, .int bm.2.2.2.2, .ref ok, .int km.2, .int qm.1, .int qm.2.1, .int qm.2.2.1, .int qm.2.2.2, .int bd, .int ym.1, .int ym.2.1, .int ym.2.2.1, .int ym.2.2.2])), (ob, .inl (cZ, 5200, .inl bm.1)), (ok, .inl (cK, 600, .inl km.1))]) [0, 1, 2] (by decide) rfl
                  have hFc := va_free (wc := [(om, .inr (3, [.int th, .int st, .int lo, .ref ob, .int bm.2.1, .int bm.2.2.1, .int bm.2.2.2.1, .int bm.2.2.2.2, .ref ok, .int km.2, .int qm.1, .int qm.2.1, .int qm.2.2.1, .int qm.2.2.2, .int bd, .int ym.1, .int ym.2.1, .int ym.2.2.1, .int ym.2.2.2])), (ob, .inl (cZ, 5200, .inl bm.1)), (ok, .inl (cK, 600, .inl km.1))]) hD hS hA [0, 1, 2] rfl
                  refine va_callv (va_runV (As := []) (rest := []) ⟨hx, hb, hml, hown, hts⟩ (mX3_goOn l dC dI cZ cK om ob ok H.size st lo th bm km qm bd ym (by first | exact hf.2.1 (Or.inl c_27) | exact hf.2.1 (Or.inr ⟨c_35, c_42⟩))) (cwV 0 hts (gV wd572 wd573 wd22 wd30 wd574) rfl rfl rfl (by decide +kernel) ⟨Nat.le_of_ble_eq_true rfl, Nat.le_of_ble_eq_true rfl⟩) ⟨fb_rw, va_recv hKc hPc (ci := 3) (q0 := 0) rfl rfl, pre_rw hPc hKc hDc hZ⟩ rfl rfl hl.1 rfl (lv_room (Nat.le_of_ble_eq_true rfl)) dX3_skip_99 ⟨Nat.le_of_ble_eq_true rfl, Nat.le_of_ble_eq_true rfl⟩) hS (fun q _ h => hFc q h) hFc (fun u_123 t H1 locs ht hvm hw_122 hB hz1 hk1 hS => ?_)
                  obtain ⟨hP1, hD1⟩ := hB
                  rw [ht] at hP1
                  obtain ⟨hP, hD⟩ := va_join (wr := []) (w1 := [(om, .inr (3, [.int th, .int st, .int lo, .ref ob, .int bm.2.1, .int bm.2.2.1, .int bm.2.2.2.1, .int bm.2.2.2.2, .ref ok, .int km.2, .int qm.1, .int qm.2.1, .int qm.2.2.1, .int qm.2.2.2, .int bd, .int u_123.1, .int u_123.2.1, .int u_123.2.2.1, .int u_123.2.2.2])), (ob, .inl (cZ, 5200, .inl bm.1)), (ok, .inl (cK, 600, .inl km.1))]) hP hD [0, 1, 2] [] rfl rfl (by decide) (by decide) hk1 hFc hP1 hD1
                  generalize H1 = H at hP hS ⊢
                  have hP : va_P (dC, dI) vwCl [(om, .inr (3, [.int th, .int st, .int lo, .ref ob, .int bm.2.1, .int bm.2.2.1, .int bm.2.2.2.1, .int bm.2.2.2.2, .ref ok, .int km.2, .int qm.1, .int qm.2.1, .int qm.2.2.1, .int qm.2.2.2, .int bd, .int u_123.1, .int u_123.2.1, .int u_123.2.2.1, .int u_123.2.2.2])), (ob, .inl (cZ, 5200, .inl bm.1)), (ok, .inl (cK, 600, .inl km.1))] H := hP
                  have hD : va_D A [(om, .inr (3, [.int th, .int st, .int lo, .ref ob, .int bm.2.1, .int bm.2.2.1, .int bm.2.2.2.1, .int bm.2.2.2.2, .ref ok, .int km.2, .int qm.1, .int qm.2.1, .int qm.2.2.1, .int qm.2.2.2, .int bd, .int u_123.1, .int u_123.2.1, .int u_123.2.2.1, .int u_123.2.2.2])), (ob, .inl (cZ, 5200, .inl bm.1)), (ok, .inl (cK, 600, .inl km.1))] := hD
                  refine lv_iload_n hx hb dX3_skip_102 rfl (lv_at hl 1 rfl) ?_
                  refine lv_if_eq (tgt := 119) hx hb dX3_skip_103 (by decide) (fun c_103 => absurd c_103 (by decide)) (fun c_103 => ?_)
                  refine lv_aload_n hx hb dX3_skip_106 rfl (lv_at hl 2 rfl) ?_
                  refine lv_dup hx hb dX3_skip_107 rfl ?_
                  refine va_get (D := (dC, dI)) (ci := 3) (v := .int u_123.2.1) (C := RX3) (T := TX3) (N := 19) hx hb hts inGX3 hown hK hP 0 rfl rfl 16 (by decide) (hts _ wd453) (fun _ h9 => h9) rfl dX3_skip_108 ?_
                  refine lv_iconst (v := 1) hx hb dX3_skip_111 (by decide) ?_
                  refine lv_iadd hx hb dX3_skip_112 ?_
                  refine lv_topi (fun f_124 ef_124 => ?_)
                  refine va_put (D := (dC, dI)) (ci := 3) (v := .int f_124) (ty := .int) (C := RX3) (T := TX3) (N := 19) hx hb hts inGX3 tyX3 tyX3_ok nmX3 hown hK hP hD hS 0 rfl rfl 16 (by decide) (hts _ wd453) (fun _ h9 => h9) rfl (by decide +kernel) rfl rfl (Nat.le_of_ble_eq_true rfl) dX3_skip_113 (fun H locs hP hD hS => ?_)
                  have hP : va_P (dC, dI) vwCl [(om, .inr (3, [.int th, .int st, .int lo, .ref ob, .int bm.2.1, .int bm.2.2.1, .int bm.2.2.2.1, .int bm.2.2.2.2, .ref ok, .int km.2, .int qm.1, .int qm.2.1, .int qm.2.2.1, .int qm.2.2.2, .int bd, .int u_123.1, .int f_124, .int u_123.2.2.1, .int u_123.2.2.2])), (ob, .inl (cZ, 5200, .inl bm.1)), (ok, .inl (cK, 600, .inl km.1))] H := hP
                  have hD : va_D A [(om, .inr (3, [.int th, .int st, .int lo, .ref ob, .int bm.2.1, .int bm.2.2.1, .int bm.2.2.2.1, .int bm.2.2.2.2, .ref ok, .int km.2, .int qm.1, .int qm.2.1, .int qm.2.2.1, .int qm.2.2.2, .int bd, .int u_123.1, .int f_124, .int u_123.2.2.1, .int u_123.2.2.2])), (ob, .inl (cZ, 5200, .inl bm.1)), (ok, .inl (cK, 600, .inl km.1))] := hD
                  refine lv_goto (tgt := 189) hx hb dX3_skip_116 (by decide) ?_
                  refine lv_goto (tgt := 20) hx hb dX3_skip_189 (by decide) ?_
                  exact ih th bm km qm bd (u_123.1, f_124, u_123.2.2.1, u_123.2.2.2) nn (hf.2.2 _ _ (ssX3_skip_20_68 st lo th bm km qm bd ym nn c_27 c_35 c_42 c_50 c_57 c_71 c_80 _ hw_121 _ hw_122 _ ef_124)) ((plX3_skip_l20_71 st lo n th bm km qm bd ym nn c_27 c_35 c_42 c_50 c_57 c_71 c_80 _ hw_121 _ hw_122 _ ef_124).trans hz) _ _ (hP.sub (ws' := [(om, .inr (3, [.int th, .int st, .int lo, .ref ob, .int bm.2.1, .int bm.2.2.1, .int bm.2.2.2.1, .int bm.2.2.2.2, .ref ok, .int km.2, .int qm.1, .int qm.2.1, .int qm.2.2.1, .int qm.2.2.2, .int bd, .int ((u_123.1, f_124, u_123.2.2.1, u_123.2.2.2).1), .int ((u_123.1, f_124, u_123.2.2.1, u_123.2.2.2).2.1), .int ((u_123.1, f_124, u_123.2.2.1, u_123.2.2.2).2.2.1), .int ((u_123.1, f_124, u_123.2.2.1, u_123.2.2.2).2.2.2)])), (ob, .inl (cZ, 5200, .inl bm.1)), (ok, .inl (cK, 600, .inl km.1))]) [0, 1, 2] rfl) (hD.sub (ws' := [(om, .inr (3, [.int th, .int st, .int lo, .ref ob, .int bm.2.1, .int bm.2.2.1, .int bm.2.2.2.1, .int bm.2.2.2.2, .ref ok, .int km.2, .int qm.1, .int qm.2.1, .int qm.2.2.1, .int qm.2.2.2, .int bd, .int ((u_123.1, f_124, u_123.2.2.1, u_123.2.2.2).1), .int ((u_123.1, f_124, u_123.2.2.1, u_123.2.2.2).2.1), .int ((u_123.1, f_124, u_123.2.2.1, u_123.2.2.2).2.2.1), .int ((u_123.1, f_124, u_123.2.2.1, u_123.2.2.2).2.2.2)])), (ob, .inl (cZ, 5200, .inl bm.1)), (ok, .inl (cK, 600, .inl km.1))]) [0, 1, 2] (by decide) rfl) hS ls (lv_sub hl [2, 3] rfl)
set_option maxHeartbeats 4000000 in
set_option maxRecDepth 100000 in
theorem mX3_skip (l : Launch) (dC : Nat → ClassId) (dI : Nat → Nat → Nat) (cZ cK : ClassId) (om ob ok : Nat) (sz : Nat) (st : Int32) (lo : Int32) (th : Int32) (bm : Bm) (km : Rw) (qm : Tk) (bd : Int32) (ym : Tk) (hq : yOk km qm) (hE : ∀ th : Int32, skE st lo (SX3_skip_20 st lo th bm km qm bd) km 17 (qm.1, qm.2.1, qm.2.2.1, qm.2.2.2) 0) : Met l yX3_skip (Cond.code yX3_skip cX3_skip 4 (some .int) :: G) ({ frames := 1, cells := 0, slots := 0, locals := 22 } : Room) (va_Pc [.ref om] (fun U => U.heap.size = sz ∧ va_P (dC, dI) vwCl [(om, .inr (3, [.int th, .int st, .int lo, .ref ob, .int bm.2.1, .int bm.2.2.1, .int bm.2.2.2.1, .int bm.2.2.2.2, .ref ok, .int km.2, .int qm.1, .int qm.2.1, .int qm.2.2.1, .int qm.2.2.2, .int bd, .int ym.1, .int ym.2.1, .int ym.2.2.1, .int ym.2.2.2])), (ob, .inl (cZ, 5200, .inl bm.1)), (ok, .inl (cK, 600, .inl km.1))] U.heap ∧ va_K (dC, dI) vwCl [(cZ, .boolean), (cK, .int)] U ∧ va_D (fun _ => True) [(om, .inr (3, [.int th, .int st, .int lo, .ref ob, .int bm.2.1, .int bm.2.2.1, .int bm.2.2.2.1, .int bm.2.2.2.2, .ref ok, .int km.2, .int qm.1, .int qm.2.1, .int qm.2.2.1, .int qm.2.2.2, .int bd, .int ym.1, .int ym.2.1, .int ym.2.2.1, .int ym.2.2.2])), (ob, .inl (cZ, 5200, .inl bm.1)), (ok, .inl (cK, 600, .inl km.1))] ∧ zOk U)) (va_Qi (fun (r : Int32) (u : Int32 × Tk × Tk) => (r, u) = (FX3_skip st lo th bm km qm bd ym)) (fun (u : Int32 × Tk × Tk) (t : State) => va_P (dC, dI) vwCl [(om, .inr (3, [.int u.1, .int st, .int lo, .ref ob, .int bm.2.1, .int bm.2.2.1, .int bm.2.2.2.1, .int bm.2.2.2.2, .ref ok, .int km.2, .int u.2.1.1, .int u.2.1.2.1, .int u.2.1.2.2.1, .int u.2.1.2.2.2, .int bd, .int u.2.2.1, .int u.2.2.2.1, .int u.2.2.2.2.1, .int u.2.2.2.2.2])), (ob, .inl (cZ, 5200, .inl bm.1)), (ok, .inl (cK, 600, .inl km.1))] t.heap ∧ va_D (va_A [(om, .inr (3, [.int th, .int st, .int lo, .ref ob, .int bm.2.1, .int bm.2.2.1, .int bm.2.2.2.1, .int bm.2.2.2.2, .ref ok, .int km.2, .int qm.1, .int qm.2.1, .int qm.2.2.1, .int qm.2.2.2, .int bd, .int ym.1, .int ym.2.1, .int ym.2.2.1, .int ym.2.2.2])), (ob, .inl (cZ, 5200, .inl bm.1)), (ok, .inl (cK, 600, .inl km.1))] sz) [(om, .inr (3, [.int u.1, .int st, .int lo, .ref ob, .int bm.2.1, .int bm.2.2.1, .int bm.2.2.2.1, .int bm.2.2.2.2, .ref ok, .int km.2, .int u.2.1.1, .int u.2.1.2.1, .int u.2.1.2.2.1, .int u.2.1.2.2.2, .int bd, .int u.2.2.1, .int u.2.2.2.1, .int u.2.2.2.2.1, .int u.2.2.2.2.2])), (ob, .inl (cZ, 5200, .inl bm.1)), (ok, .inl (cK, 600, .inl km.1))]) (va_A [(om, .inr (3, [.int th, .int st, .int lo, .ref ob, .int bm.2.1, .int bm.2.2.1, .int bm.2.2.2.1, .int bm.2.2.2.2, .ref ok, .int km.2, .int qm.1, .int qm.2.1, .int qm.2.2.1, .int qm.2.2.2, .int bd, .int ym.1, .int ym.2.1, .int ym.2.2.1, .int ym.2.2.2])), (ob, .inl (cZ, 5200, .inl bm.1)), (ok, .inl (cK, 600, .inl km.1))] sz)) 0 0 (va_A [(om, .inr (3, [.int th, .int st, .int lo, .ref ob, .int bm.2.1, .int bm.2.2.1, .int bm.2.2.2.1, .int bm.2.2.2.2, .ref ok, .int km.2, .int qm.1, .int qm.2.1, .int qm.2.2.1, .int qm.2.2.2, .int bd, .int ym.1, .int ym.2.1, .int ym.2.2.1, .int ym.2.2.2])), (ob, .inl (cZ, 5200, .inl bm.1)), (ok, .inl (cK, 600, .inl km.1))] sz) := by
  refine Met.ofW (cc := cX3_skip) (maxL := 4) (ret := (some .int)) (by decide) rfl ?_
  intro p e s m args below meth c s₁ B hml hv
  obtain ⟨rfl, hsz, hP, hK, hD0, hZ⟩ := hv
  have hx := B.exec
  have hb := B.bytes
  have hr := B.returns
  have hts : ∀ w ∈ G, w.before [.ref om].toArray s = true := fun w h => atoms_spec (ws := (Cond.code yX3_skip cX3_skip 4 (some .int) :: G)) B.pre w (List.mem_cons_of_mem _ h)
  have hown : s.vm.findClass RX3 = some m.cls := findClass_of_methodNamed B.named
  have hlocks := B.notSynchronized
  subst hsz
  have hD := hD0.self (sz := s.heap.size)
  generalize hAe : va_A [(om, .inr (3, [.int th, .int st, .int lo, .ref ob, .int bm.2.1, .int bm.2.2.1, .int bm.2.2.2.1, .int bm.2.2.2.2, .ref ok, .int km.2, .int qm.1, .int qm.2.1, .int qm.2.2.1, .int qm.2.2.2, .int bd, .int ym.1, .int ym.2.1, .int ym.2.2.1, .int ym.2.2.2])), (ob, .inl (cZ, 5200, .inl bm.1)), (ok, .inl (cK, 600, .inl km.1))] s.heap.size = A at hD ⊢
  have hA : ∀ q : Nat, s.heap.size ≤ q → A q := fun q h => by rw [← hAe]; exact Or.inr h
  have hS : va_S A s.heap s.heap [] := va_S.rf
  have hP : va_P (dC, dI) vwCl [(om, .inr (3, [.int th, .int st, .int lo, .ref ob, .int bm.2.1, .int bm.2.2.1, .int bm.2.2.2.1, .int bm.2.2.2.2, .ref ok, .int km.2, .int qm.1, .int qm.2.1, .int qm.2.2.1, .int qm.2.2.2, .int bd, .int ym.1, .int ym.2.1, .int ym.2.2.1, .int ym.2.2.2])), (ob, .inl (cZ, 5200, .inl bm.1)), (ok, .inl (cK, 600, .inl km.1))] s.heap := hP
  have hl := lv_entry ([.ref om]) (n := 4) (Nat.le_of_ble_eq_true rfl)
  rw [lg_entry_eq]
  generalize (lg_sl ([.ref om]) ++ List.replicate (4 - (lg_sl ([.ref om])).length) Slot.unset).toArray = ls at hl ⊢
  have hl : lv_has ls 4 [(0, .ref om)] := hl
  refine lv_aload_n hx hb dX3_skip_0 rfl (lv_at hl 0 rfl) ?_
  refine lv_iconst (v := 0) hx hb dX3_skip_1 (by decide) ?_
  refine va_put (D := (dC, dI)) (ci := 3) (v := .int 0) (ty := .int) (C := RX3) (T := TX3) (N := 19) hx hb hts inGX3 tyX3 tyX3_ok nmX3 hown hK hP hD hS 0 rfl rfl 0 (by decide) (hts _ wd437) (fun _ h9 => h9) rfl (by decide +kernel) rfl rfl (Nat.le_of_ble_eq_true rfl) dX3_skip_2 (fun H locs hP hD hS => ?_)
  have hP : va_P (dC, dI) vwCl [(om, .inr (3, [.int 0, .int st, .int lo, .ref ob, .int bm.2.1, .int bm.2.2.1, .int bm.2.2.2.1, .int bm.2.2.2.2, .ref ok, .int km.2, .int qm.1, .int qm.2.1, .int qm.2.2.1, .int qm.2.2.2, .int bd, .int ym.1, .int ym.2.1, .int ym.2.2.1, .int ym.2.2.2])), (ob, .inl (cZ, 5200, .inl bm.1)), (ok, .inl (cK, 600, .inl km.1))] H := hP
  have hD : va_D A [(om, .inr (3, [.int 0, .int st, .int lo, .ref ob, .int bm.2.1, .int bm.2.2.1, .int bm.2.2.2.1, .int bm.2.2.2.2, .ref ok, .int km.2, .int qm.1, .int qm.2.1, .int qm.2.2.1, .int qm.2.2.2, .int bd, .int ym.1, .int ym.2.1, .int ym.2.2.1, .int ym.2.2.2])), (ob, .inl (cZ, 5200, .inl bm.1)), (ok, .inl (cK, 600, .inl km.1))] := hD
  refine lv_aload_n hx hb dX3_skip_5 rfl (lv_at hl 0 rfl) ?_
  refine va_get (D := (dC, dI)) (ci := 3) (v := .int bd) (C := RX3) (T := TX3) (N := 19) hx hb hts inGX3 hown hK hP 0 rfl rfl 14 (by decide) (hts _ wd451) (fun _ h9 => h9) rfl dX3_skip_6 ?_
  refine lv_if_eq (tgt := 14) hx hb dX3_skip_9 (by decide) (fun c_9 => ?_) (fun c_9 => ?_)
  · refine lv_aload_n hx hb dX3_skip_14 rfl (lv_at hl 0 rfl) ?_
    have hPc := hP.sub (ws' := [(om, .inr (3, [.int 0, .int st, .int lo, .ref ob, .int bm.2.1, .int bm.2.2.1, .int bm.2.2.2.1, .int bm.2.2.2.2, .ref ok, .int km.2, .int qm.1, .int qm.2.1, .int qm.2.2.1, .int qm.2.2.2, .int bd, .int ym.1, .int ym.2.1, .int ym.2.2.1, .int ym.2.2.2])), (ob, .inl (cZ, 5200, .inl bm.1)), (ok, .inl (cK, 600, .inl km.1))]) [0, 1, 2] rfl
    have hKc := hK.sub (tys' := [(cZ, .boolean), (cK, .int)]) [0, 1] rfl
    have hDc := hD.sub (ws' := [(om, .inr (3, [.int 0, .int st, .int lo, .ref ob, .int bm.2.1, .int bm.2.2.1, .int bm.2.2.2.1, .int bm.2.2.2.2, .ref ok, .int km.2, .int qm.1, .int qm.2.1, .int qm.2.2.1, .int qm.2.2.2, .int bd, .int ym.1, .int ym.2.1, .int ym.2.2.1, .int ym.2.2.2])), (ob, .inl (cZ, 5200, .inl bm.1)), (ok, .inl (cK, 600, .inl km.1))]) [0, 1, 2] (by decide) rfl
    have hFc := va_free (wc := [(om, .inr (3, [.int 0, .int st, .int lo, .ref ob, .int bm.2.1, .int bm.2.2.1, .int bm.2.2.2.1, .int bm.2.2.2.2, .ref ok, .int km.2, .int qm.1, .int qm.2.1, .int qm.2.2.1, .int qm.2.2.2, .int bd, .int ym.1, .int ym.2.1, .int ym.2.2.1, .int ym.2.2.2])), (ob, .inl (cZ, 5200, .inl bm.1)), (ok, .inl (cK, 600, .inl km.1))]) hD hS hA [0, 1, 2] rfl
    refine va_callv (va_runV (As := []) (rest := []) ⟨hx, hb, hml, hown, hts⟩ (mX3_beginTry l dC dI cZ cK om ob ok H.size st lo 0 bm km qm bd ym hq.2) (cwV 0 hts (gV wd560 wd561 wd18 wd30 wd562) rfl rfl rfl (by decide +kernel) ⟨Nat.le_of_ble_eq_true rfl, Nat.le_of_ble_eq_true rfl⟩) ⟨fb_rw, va_recv hKc hPc (ci := 3) (q0 := 0) rfl rfl, pre_rw hPc hKc hDc hZ⟩ rfl rfl hl.1 rfl (lv_room (Nat.le_of_ble_eq_true rfl)) dX3_skip_15 ⟨Nat.le_of_ble_eq_true rfl, Nat.le_of_ble_eq_true rfl⟩) hS (fun q _ h => hFc q h) hFc (fun u_2 t H1 locs ht hvm hw_1 hB hz1 hk1 hS => ?_)
    obtain ⟨hP1, hD1⟩ := hB
    rw [ht] at hP1
    obtain ⟨hP, hD⟩ := va_join (wr := []) (w1 := [(om, .inr (3, [.int 0, .int st, .int lo, .ref ob, .int bm.2.1, .int bm.2.2.1, .int bm.2.2.2.1, .int bm.2.2.2.2, .ref ok, .int km.2, .int qm.1, .int qm.2.1, .int qm.2.2.1, .int qm.2.2.2, .int bd, .int u_2.1, .int u_2.2.1, .int u_2.2.2.1, .int u_2.2.2.2])), (ob, .inl (cZ, 5200, .inl bm.1)), (ok, .inl (cK, 600, .inl km.1))]) hP hD [0, 1, 2] [] rfl rfl (by decide) (by decide) hk1 hFc hP1 hD1
    generalize H1 = H at hP hS ⊢
    have hP : va_P (dC, dI) vwCl [(om, .inr (3, [.int 0, .int st, .int lo, .ref ob, .int bm.2.1, .int bm.2.2.1, .int bm.2.2.2.1, .int bm.2.2.2.2, .ref ok, .int km.2, .int qm.1, .int qm.2.1, .int qm.2.2.1, .int qm.2.2.2, .int bd, .int u_2.1, .int u_2.2.1, .int u_2.2.2.1, .int u_2.2.2.2])), (ob, .inl (cZ, 5200, .inl bm.1)), (ok, .inl (cK, 600, .inl km.1))] H := hP
    have hD : va_D A [(om, .inr (3, [.int 0, .int st, .int lo, .ref ob, .int bm.2.1, .int bm.2.2.1, .int bm.2.2.2.1, .int bm.2.2.2.2, .ref ok, .int km.2, .int qm.1, .int qm.2.1, .int qm.2.2.1, .int qm.2.2.2, .int bd, .int u_2.1, .int u_2.2.1, .int u_2.2.2.1, .int u_2.2.2.2])), (ob, .inl (cZ, 5200, .inl bm.1)), (ok, .inl (cK, 600, .inl km.1))] := hD
    refine lv_iconst (v := 0) hx hb dX3_skip_18 (by decide) ?_
    refine lv_istore_n (lv' := [(1, .int 0), (0, .ref om)]) hx hb dX3_skip_19 rfl hl (by decide) rfl (fun ls hl => ?_)
    exact kX3_skip_20 hx hb hr hml hown hts hlocks hA hZ hK 17 0 bm km qm bd u_2 0 (sk_0 (hE _) (by assumption)) (plX3_skip_0 st lo th bm km qm bd ym c_9 _ hw_1) _ _ (hP.sub (ws' := [(om, .inr (3, [.int 0, .int st, .int lo, .ref ob, .int bm.2.1, .int bm.2.2.1, .int bm.2.2.2.1, .int bm.2.2.2.2, .ref ok, .int km.2, .int qm.1, .int qm.2.1, .int qm.2.2.1, .int qm.2.2.2, .int bd, .int u_2.1, .int u_2.2.1, .int u_2.2.2.1, .int u_2.2.2.2])), (ob, .inl (cZ, 5200, .inl bm.1)), (ok, .inl (cK, 600, .inl km.1))]) [0, 1, 2] rfl) (hD.sub (ws' := [(om, .inr (3, [.int 0, .int st, .int lo, .ref ob, .int bm.2.1, .int bm.2.2.1, .int bm.2.2.2.1, .int bm.2.2.2.2, .ref ok, .int km.2, .int qm.1, .int qm.2.1, .int qm.2.2.1, .int qm.2.2.2, .int bd, .int u_2.1, .int u_2.2.1, .int u_2.2.2.1, .int u_2.2.2.2])), (ob, .inl (cZ, 5200, .inl bm.1)), (ok, .inl (cK, 600, .inl km.1))]) [0, 1, 2] (by decide) rfl) hS ls (lv_sub hl [1, 0] rfl)
  · refine lv_iconst (v := 0) hx hb dX3_skip_12 (by decide) ?_
    have hP9 := hP.sub (ws' := [(om, .inr (3, [.int 0, .int st, .int lo, .ref ob, .int bm.2.1, .int bm.2.2.1, .int bm.2.2.2.1, .int bm.2.2.2.2, .ref ok, .int km.2, .int qm.1, .int qm.2.1, .int qm.2.2.1, .int qm.2.2.2, .int bd, .int ym.1, .int ym.2.1, .int ym.2.2.1, .int ym.2.2.2])), (ob, .inl (cZ, 5200, .inl bm.1)), (ok, .inl (cK, 600, .inl km.1))]) [0, 1, 2] rfl
    have hD9 := hD.sub (ws' := [(om, .inr (3, [.int 0, .int st, .int lo, .ref ob, .int bm.2.1, .int bm.2.2.1, .int bm.2.2.2.1, .int bm.2.2.2.2, .ref ok, .int km.2, .int qm.1, .int qm.2.1, .int qm.2.2.1, .int qm.2.2.2, .int bd, .int ym.1, .int ym.2.1, .int ym.2.2.1, .int ym.2.2.2])), (ob, .inl (cZ, 5200, .inl bm.1)), (ok, .inl (cK, 600, .inl km.1))]) [0, 1, 2] (by decide) rfl
    exact W.iret (v := 0) hx hb hr (fun t ht hW => ⟨⟨0, (0, qm, ym), rfl, (plX3_skip_1 st lo th bm km qm bd ym c_9), by rw [ht]; exact hP9, hD9⟩, hS.F ht⟩) hS.2.2 dX3_skip_13
