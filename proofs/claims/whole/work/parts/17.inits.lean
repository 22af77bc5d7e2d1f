def FX0_init (p0 : Int32) : Rw :=
  (fun _ => 0, 0)
set_option maxRecDepth 100000 in
theorem plX0_init_0 (p0 : Int32)  : (fun _ => 0, 0) = FX0_init p0 := by
  exact rfl
set_option maxHeartbeats 4000000 in
set_option maxRecDepth 100000 in
theorem mX0_init (l : Launch) (dC : Nat → ClassId) (dI : Nat → Nat → Nat) (o : Nat) (sz : Nat) (p0 : Int32) (hlf : narrow .boolean (.int p0) = .int p0) (hft : fits .boolean (.int p0) = true) : Met l yX0_init (Cond.code yX0_init cX0_init 2 none :: G) ({ frames := 1, cells := 1, slots := 600, locals := 12 } : Room) (va_Pc [.ref o, .int p0] (fun U => U.heap.size = sz ∧ va_P (dC, dI) vwCl [(o, .inr (0, [.int 0, .null, .int 0]))] U.heap ∧ va_K (dC, dI) vwCl [] U ∧ va_D (fun _ => True) [(o, .inr (0, [.int 0, .null, .int 0]))] ∧ zOk U)) (va_Qv (fun (u : Rw) => u = (FX0_init p0)) (fun (u : Rw) (t : State) => ∃ (oa : Nat) (cI : ClassId), va_P (dC, dI) vwCl [(o, .inr (0, [.int p0, .ref oa, .int u.2])), (oa, .inl (cI, 600, .inl u.1))] t.heap ∧ va_K (dC, dI) vwCl [(cI, .int)] t ∧ va_D (va_A [(o, .inr (0, [.int 0, .null, .int 0]))] sz) [(o, .inr (0, [.int p0, .ref oa, .int u.2])), (oa, .inl (cI, 600, .inl u.1))]) (va_A [(o, .inr (0, [.int 0, .null, .int 0]))] sz)) 1 600 (va_A [(o, .inr (0, [.int 0, .null, .int 0]))] sz) := by
  refine Met.ofW (cc := cX0_init) (maxL := 2) (ret := none) (by decide) rfl ?_
  intro p e s m args below meth c s₁ B hml hv
  obtain ⟨rfl, hsz, hP, hK, hD0, hZ⟩ := hv
  have hx := B.exec
  have hb := B.bytes
  have hr := B.returns
  have hts : ∀ w ∈ G, w.before [.ref o, .int p0].toArray s = true := fun w h => atoms_spec (ws := (Cond.code yX0_init cX0_init 2 none :: G)) B.pre w (List.mem_cons_of_mem _ h)
  have hown : s.vm.findClass RX0 = some m.cls := findClass_of_methodNamed B.named
  have hlocks := B.notSynchronized
  have hin : meth.name = "<init>" := (name_of_methodNamed B.named B.method).1
  subst hsz
  have hD := hD0.self (sz := s.heap.size)
  generalize hAe : va_A [(o, .inr (0, [.int 0, .null, .int 0]))] s.heap.size = A at hD ⊢
  have hA : ∀ q : Nat, s.heap.size ≤ q → A q := fun q h => by rw [← hAe]; exact Or.inr h
  have hS : va_S A s.heap s.heap [] := va_S.rf
  have hP : va_P (dC, dI) vwCl [(o, .inr (0, [.int 0, .null, .int 0]))] s.heap := hP
  have hl := lv_entry ([.ref o, .int p0]) (n := 2) (Nat.le_of_ble_eq_true rfl)
  rw [lg_entry_eq]
  generalize (lg_sl ([.ref o, .int p0]) ++ List.replicate (2 - (lg_sl ([.ref o, .int p0])).length) Slot.unset).toArray = ls at hl ⊢
  have hl : lv_has ls 2 [(0, .ref o), (1, .int p0)] := hl
  refine lv_aload_n hx hb dX0_init_0 rfl (lv_at hl 0 rfl) ?_
  refine W.objInit hx hb hown (hts _ wd58) (hts _ wd45) (hts _ wd46) rfl (by rw [hml]; exact hl.1) rfl dX0_init_1 (Nat.le_of_ble_eq_true rfl) (Nat.le_of_ble_eq_true rfl) ?_
  refine W.eq (g2 := F0 m 4 ls []) rfl ?_
  refine lv_aload_n hx hb dX0_init_4 rfl (lv_at hl 0 rfl) ?_
  refine lv_iload_n hx hb dX0_init_5 rfl (lv_at hl 1 rfl) ?_
  refine va_putF (D := (dC, dI)) (ci := 0) (v := .int p0) (ty := .boolean) (C := RX0) (T := TX0) (N := 3) hx hb hts inGX0 tyX0 tyX0_ok nmX0 hown hK hP hD hS 0 rfl rfl 0 (by decide) (hts _ wd59) (fun _ h9 => h9) rfl hin rfl (by decide +kernel) hlf hft (Nat.le_of_ble_eq_true rfl) dX0_init_6 (fun H locs hP hD hS => ?_)
  have hP : va_P (dC, dI) vwCl [(o, .inr (0, [.int p0, .null, .int 0]))] H := hP
  have hD : va_D A [(o, .inr (0, [.int p0, .null, .int 0]))] := hD
  refine lv_aload_n hx hb dX0_init_9 rfl (lv_at hl 0 rfl) ?_
  refine lv_sipush (v := 600) hx hb dX0_init_10 (by decide) ?_
  refine va_newa (atype := .int) (ty := .int) (a0 := (600, .inl (fun _ => 0))) (N' := 600) hx hb (hts _ wd69) rfl hK hP hD hS hA (fun _ => rfl) (by decide) (by decide) (by decide) (Nat.le_of_ble_eq_true rfl) (Nat.le_of_ble_eq_true rfl) dX0_init_13 (fun q13 cA13 H hK hP hD hS => ?_)
  have hP : va_P (dC, dI) vwCl [(o, .inr (0, [.int p0, .null, .int 0])), (q13, .inl (cA13, 600, .inl (fun _ => 0)))] H := hP
  have hD : va_D A [(o, .inr (0, [.int p0, .null, .int 0])), (q13, .inl (cA13, 600, .inl (fun _ => 0)))] := hD
  have hK : va_K (dC, dI) vwCl [(cA13, .int)] s := hK
  refine W.widen (k := 1) (n := 600) (by omega) (by omega) ?_
  refine va_putF (D := (dC, dI)) (ci := 0) (v := .ref q13) (ty := .array .int) (C := RX0) (T := TX0) (N := 3) hx hb hts inGX0 tyX0 tyX0_ok nmX0 hown hK hP hD hS 0 rfl rfl 1 (by decide) (hts _ wd60) (fun _ h9 => h9) rfl hin rfl (by decide +kernel) rfl rfl (Nat.le_of_ble_eq_true rfl) dX0_init_15 (fun H locs hP hD hS => ?_)
  have hP : va_P (dC, dI) vwCl [(o, .inr (0, [.int p0, .ref q13, .int 0])), (q13, .inl (cA13, 600, .inl (fun _ => 0)))] H := hP
  have hD : va_D A [(o, .inr (0, [.int p0, .ref q13, .int 0])), (q13, .inl (cA13, 600, .inl (fun _ => 0)))] := hD
  refine lv_aload_n hx hb dX0_init_18 rfl (lv_at hl 0 rfl) ?_
  refine lv_iconst (v := 0) hx hb dX0_init_19 (by decide) ?_
  refine va_put (D := (dC, dI)) (ci := 0) (v := .int 0) (ty := .int) (C := RX0) (T := TX0) (N := 3) hx hb hts inGX0 tyX0 tyX0_ok nmX0 hown hK hP hD hS 0 rfl rfl 2 (by decide) (hts _ wd61) (fun _ h9 => h9) rfl (by decide +kernel) rfl rfl (Nat.le_of_ble_eq_true rfl) dX0_init_20 (fun H locs hP hD hS => ?_)
  have hP : va_P (dC, dI) vwCl [(o, .inr (0, [.int p0, .ref q13, .int 0])), (q13, .inl (cA13, 600, .inl (fun _ => 0)))] H := hP
  have hD : va_D A [(o, .inr (0, [.int p0, .ref q13, .int 0])), (q13, .inl (cA13, 600, .inl (fun _ => 0)))] := hD
  have hP9 := hP.sub (ws' := [(o, .inr (0, [.int p0, .ref q13, .int 0])), (q13, .inl (cA13, 600, .inl (fun _ => 0)))]) [0, 1] rfl
  have hD9 := hD.sub (ws' := [(o, .inr (0, [.int p0, .ref q13, .int 0])), (q13, .inl (cA13, 600, .inl (fun _ => 0)))]) [0, 1] (by decide) rfl
  have hK9 := hK.sub (tys' := [(cA13, .int)]) [0] rfl
  refine W.widen (k := 1) (n := 600) (by omega) (by omega) ?_
  exact W.vret hx hb hr (fun t ht hW => ⟨⟨(fun _ => 0, 0), rfl, (plX0_init_0 p0), q13, cA13, by rw [ht]; exact hP9, va_K.moved hW.alike hK9, hD9⟩, hS.F ht⟩) hS.2.2 dX0_init_23
def FX1_init (p1 : Int32) (p2 : Int32) : Tk × Int32 :=
  if p2 = 0 then
    ((0, 0, 0, 0), 0)
  else
    ((0, 0, 0, 0), 7)
set_option maxRecDepth 100000 in
theorem plX1_init_0 (p1 : Int32) (p2 : Int32) (c_16 : p2 = 0) : ((0, 0, 0, 0), 0) = FX1_init p1 p2 := by
  exact (if_pos c_16).symm
set_option maxRecDepth 100000 in
theorem plX1_init_1 (p1 : Int32) (p2 : Int32) (c_16 : ¬ (p2 = 0)) : ((0, 0, 0, 0), 7) = FX1_init p1 p2 := by
  exact (if_neg c_16).symm
set_option maxHeartbeats 4000000 in
set_option maxRecDepth 100000 in
theorem mX1_init (l : Launch) (dC : Nat → ClassId) (dI : Nat → Nat → Nat) (o : Nat) (sz : Nat) (p0 : Nat) (p1 : Int32) (p2 : Int32) : Met l yX1_init (Cond.code yX1_init cX1_init 4 none :: G) ({ frames := 1, cells := 0, slots := 0, locals := 12 } : Room) (va_Pc [.ref o, .ref p0, .int p1, .int p2] (fun U => U.heap.size = sz ∧ va_P (dC, dI) vwCl [(o, .inr (1, [.null, .int 0, .int 0, .int 0, .int 0, .int 0, .int 0]))] U.heap ∧ va_K (dC, dI) vwCl [] U ∧ va_D (fun _ => True) [(o, .inr (1, [.null, .int 0, .int 0, .int 0, .int 0, .int 0, .int 0]))] ∧ zOk U)) (va_Qv (fun (u : Tk × Int32) => u = (FX1_init p1 p2)) (fun (u : Tk × Int32) (t : State) => va_P (dC, dI) vwCl [(o, .inr (1, [.ref p0, .int p1, .int u.2, .int u.1.1, .int u.1.2.1, .int u.1.2.2.1, .int u.1.2.2.2]))] t.heap ∧ va_K (dC, dI) vwCl [] t ∧ va_D (va_A [(o, .inr (1, [.null, .int 0, .int 0, .int 0, .int 0, .int 0, .int 0]))] sz) [(o, .inr (1, [.ref p0, .int p1, .int u.2, .int u.1.1, .int u.1.2.1, .int u.1.2.2.1, .int u.1.2.2.2]))]) (va_A [(o, .inr (1, [.null, .int 0, .int 0, .int 0, .int 0, .int 0, .int 0]))] sz)) 0 0 (va_A [(o, .inr (1, [.null, .int 0, .int 0, .int 0, .int 0, .int 0, .int 0]))] sz) := by
  refine Met.ofW (cc := cX1_init) (maxL := 4) (ret := none) (by decide) rfl ?_
  intro p e s m args below meth c s₁ B hml hv
  obtain ⟨rfl, hsz, hP, hK, hD0, hZ⟩ := hv
  have hx := B.exec
  have hb := B.bytes
  have hr := B.returns
  have hts : ∀ w ∈ G, w.before [.ref o, .ref p0, .int p1, .int p2].toArray s = true := fun w h => atoms_spec (ws := (Cond.code yX1_init cX1_init 4 none :: G)) B.pre w (List.mem_cons_of_mem _ h)
  have hown : s.vm.findClass RX1 = some m.cls := findClass_of_methodNamed B.named
  have hlocks := B.notSynchronized
  have hin : meth.name = "<init>" := (name_of_methodNamed B.named B.method).1
  subst hsz
  have hD := hD0.self (sz := s.heap.size)
  generalize hAe : va_A [(o, .inr (1, [.null, .int 0, .int 0, .int 0, .int 0, .int 0, .int 0]))] s.heap.size = A at hD ⊢
  have hA : ∀ q : Nat, s.heap.size ≤ q → A q := fun q h => by rw [← hAe]; exact Or.inr h
  have hS : va_S A s.heap s.heap [] := va_S.rf
  have hP : va_P (dC, dI) vwCl [(o, .inr (1, [.null, .int 0, .int 0, .int 0, .int 0, .int 0, .int 0]))] s.heap := hP
  have hl := lv_entry ([.ref o, .ref p0, .int p1, .int p2]) (n := 4) (Nat.le_of_ble_eq_true rfl)
  rw [lg_entry_eq]
  generalize (lg_sl ([.ref o, .ref p0, .int p1, .int p2]) ++ List.replicate (4 - (lg_sl ([.ref o, .ref p0, .int p1, .int p2])).length) Slot.unset).toArray = ls at hl ⊢
  have hl : lv_has ls 4 [(0, .ref o), (1, .ref p0), (2, .int p1), (3, .int p2)] := hl
  refine lv_aload_n hx hb dX1_init_0 rfl (lv_at hl 0 rfl) ?_
  refine W.objInit hx hb hown (hts _ wd75) (hts _ wd45) (hts _ wd46) rfl (by rw [hml]; exact hl.1) rfl dX1_init_1 (Nat.le_of_ble_eq_true rfl) (Nat.le_of_ble_eq_true rfl) ?_
  refine W.eq (g2 := F0 m 4 ls []) rfl ?_
  refine lv_aload_n hx hb dX1_init_4 rfl (lv_at hl 0 rfl) ?_
  refine lv_aload_n hx hb dX1_init_5 rfl (lv_at hl 1 rfl) ?_
  refine va_putF (D := (dC, dI)) (ci := 1) (v := .ref p0) (ty := .object "BitRows$Row") (C := RX1) (T := TX1) (N := 7) hx hb hts inGX1 tyX1 tyX1_ok nmX1 hown hK hP hD hS 0 rfl rfl 0 (by decide) (hts _ wd76) (fun _ h9 => h9) rfl hin rfl (by decide +kernel) rfl rfl (Nat.le_of_ble_eq_true rfl) dX1_init_6 (fun H locs hP hD hS => ?_)
  have hP : va_P (dC, dI) vwCl [(o, .inr (1, [.ref p0, .int 0, .int 0, .int 0, .int 0, .int 0, .int 0]))] H := hP
  have hD : va_D A [(o, .inr (1, [.ref p0, .int 0, .int 0, .int 0, .int 0, .int 0, .int 0]))] := hD
  refine lv_aload_n hx hb dX1_init_9 rfl (lv_at hl 0 rfl) ?_
  refine lv_iload_n hx hb dX1_init_10 rfl (lv_at hl 2 rfl) ?_
  refine va_putF (D := (dC, dI)) (ci := 1) (v := .int p1) (ty := .int) (C := RX1) (T := TX1) (N := 7) hx hb hts inGX1 tyX1 tyX1_ok nmX1 hown hK hP hD hS 0 rfl rfl 1 (by decide) (hts _ wd77) (fun _ h9 => h9) rfl hin rfl (by decide +kernel) rfl rfl (Nat.le_of_ble_eq_true rfl) dX1_init_11 (fun H locs hP hD hS => ?_)
  have hP : va_P (dC, dI) vwCl [(o, .inr (1, [.ref p0, .int p1, .int 0, .int 0, .int 0, .int 0, .int 0]))] H := hP
  have hD : va_D A [(o, .inr (1, [.ref p0, .int p1, .int 0, .int 0, .int 0, .int 0, .int 0]))] := hD
  refine lv_aload_n hx hb dX1_init_14 rfl (lv_at hl 0 rfl) ?_
  refine lv_iload_n hx hb dX1_init_15 rfl (lv_at hl 3 rfl) ?_
  refine lv_if_eq (tgt := 24) hx hb dX1_init_16 (by decide) (fun c_16 => ?_) (fun c_16 => ?_)
  · refine lv_iconst (v := 0) hx hb dX1_init_24 (by decide) ?_
    refine va_putF (D := (dC, dI)) (ci := 1) (v := .int 0) (ty := .int) (C := RX1) (T := TX1) (N := 7) hx hb hts inGX1 tyX1 tyX1_ok nmX1 hown hK hP hD hS 0 rfl rfl 2 (by decide) (hts _ wd78) (fun _ h9 => h9) rfl hin rfl (by decide +kernel) rfl rfl (Nat.le_of_ble_eq_true rfl) dX1_init_25 (fun H locs hP hD hS => ?_)
    have hP : va_P (dC, dI) vwCl [(o, .inr (1, [.ref p0, .int p1, .int 0, .int 0, .int 0, .int 0, .int 0]))] H := hP
    have hD : va_D A [(o, .inr (1, [.ref p0, .int p1, .int 0, .int 0, .int 0, .int 0, .int 0]))] := hD
    refine lv_aload_n hx hb dX1_init_28 rfl (lv_at hl 0 rfl) ?_
    refine lv_iconst (v := 0) hx hb dX1_init_29 (by decide) ?_
    refine va_put (D := (dC, dI)) (ci := 1) (v := .int 0) (ty := .int) (C := RX1) (T := TX1) (N := 7) hx hb hts inGX1 tyX1 tyX1_ok nmX1 hown hK hP hD hS 0 rfl rfl 3 (by decide) (hts _ wd79) (fun _ h9 => h9) rfl (by decide +kernel) rfl rfl (Nat.le_of_ble_eq_true rfl) dX1_init_30 (fun H locs hP hD hS => ?_)
    have hP : va_P (dC, dI) vwCl [(o, .inr (1, [.ref p0, .int p1, .int 0, .int 0, .int 0, .int 0, .int 0]))] H := hP
    have hD : va_D A [(o, .inr (1, [.ref p0, .int p1, .int 0, .int 0, .int 0, .int 0, .int 0]))] := hD
    refine lv_aload_n hx hb dX1_init_33 rfl (lv_at hl 0 rfl) ?_
    refine lv_iconst (v := 0) hx hb dX1_init_34 (by decide) ?_
    refine va_put (D := (dC, dI)) (ci := 1) (v := .int 0) (ty := .int) (C := RX1) (T := TX1) (N := 7) hx hb hts inGX1 tyX1 tyX1_ok nmX1 hown hK hP hD hS 0 rfl rfl 4 (by decide) (hts _ wd80) (fun _ h9 => h9) rfl (by decide +kernel) rfl rfl (Nat.le_of_ble_eq_true rfl) dX1_init_35 (fun H locs hP hD hS => ?_)
    have hP : va_P (dC, dI) vwCl [(o, .inr (1, [.ref p0, .int p1, .int 0, .int 0, .int 0, .int 0, .int 0]))] H := hP
    have hD : va_D A [(o, .inr (1, [.ref p0, .int p1, .int 0, .int 0, .int 0, .int 0, .int 0]))] := hD
    refine lv_aload_n hx hb dX1_init_38 rfl (lv_at hl 0 rfl) ?_
    refine lv_iconst (v := 0) hx hb dX1_init_39 (by decide) ?_
    refine va_put (D := (dC, dI)) (ci := 1) (v := .int 0) (ty := .int) (C := RX1) (T := TX1) (N := 7) hx hb hts inGX1 tyX1 tyX1_ok nmX1 hown hK hP hD hS 0 rfl rfl 5 (by decide) (hts _ wd81) (fun _ h9 => h9) rfl (by decide +kernel) rfl rfl (Nat.le_of_ble_eq_true rfl) dX1_init_40 (fun H locs hP hD hS => ?_)
    have hP : va_P (dC, dI) vwCl [(o, .inr (1, [.ref p0, .int p1, .int 0, .int 0, .int 0, .int 0, .int 0]))] H := hP
    have hD : va_D A [(o, .inr (1, [.ref p0, .int p1, .int 0, .int 0, .int 0, .int 0, .int 0]))] := hD
    refine lv_aload_n hx hb dX1_init_43 rfl (lv_at hl 0 rfl) ?_
    refine lv_iconst (v := 0) hx hb dX1_init_44 (by decide) ?_
    refine va_put (D := (dC, dI)) (ci := 1) (v := .int 0) (ty := .int) (C := RX1) (T := TX1) (N := 7) hx hb hts inGX1 tyX1 tyX1_ok nmX1 hown hK hP hD hS 0 rfl rfl 6 (by decide) (hts _ wd82) (fun _ h9 => h9) rfl (by decide +kernel) rfl rfl (Nat.le_of_ble_eq_true rfl) dX1_init_45 (fun H locs hP hD hS => ?_)
    have hP : va_P (dC, dI) vwCl [(o, .inr (1, [.ref p0, .int p1, .int 0, .int 0, .int 0, .int 0, .int 0]))] H := hP
    have hD : va_D A [(o, .inr (1, [.ref p0, .int p1, .int 0, .int 0, .int 0, .int 0, .int 0]))] := hD
    have hP9 := hP.sub (ws' := [(o, .inr (1, [.ref p0, .int p1, .int 0, .int 0, .int 0, .int 0, .int 0]))]) [0] rfl
    have hD9 := hD.sub (ws' := [(o, .inr (1, [.ref p0, .int p1, .int 0, .int 0, .int 0, .int 0, .int 0]))]) [0] (by decide) rfl
    have hK9 := hK.sub (tys' := []) [] rfl
    exact W.vret hx hb hr (fun t ht hW => ⟨⟨((0, 0, 0, 0), 0), rfl, (plX1_init_0 p1 p2 c_16), by rw [ht]; exact hP9, va_K.moved hW.alike hK9, hD9⟩, hS.F ht⟩) hS.2.2 dX1_init_48
  · refine lv_bipush (v := 7) hx hb dX1_init_19 (by decide) ?_
    refine lv_goto (tgt := 25) hx hb dX1_init_21 (by decide) ?_
    refine va_putF (D := (dC, dI)) (ci := 1) (v := .int 7) (ty := .int) (C := RX1) (T := TX1) (N := 7) hx hb hts inGX1 tyX1 tyX1_ok nmX1 hown hK hP hD hS 0 rfl rfl 2 (by decide) (hts _ wd78) (fun _ h9 => h9) rfl hin rfl (by decide +kernel) rfl rfl (Nat.le_of_ble_eq_true rfl) dX1_init_25 (fun H locs hP hD hS => ?_)
    have hP : va_P (dC, dI) vwCl [(o, .inr (1, [.ref p0, .int p1, .int 7, .int 0, .int 0, .int 0, .int 0]))] H := hP
    have hD : va_D A [(o, .inr (1, [.ref p0, .int p1, .int 7, .int 0, .int 0, .int 0, .int 0]))] := hD
    refine lv_aload_n hx hb dX1_init_28 rfl (lv_at hl 0 rfl) ?_
    refine lv_iconst (v := 0) hx hb dX1_init_29 (by decide) ?_
    refine va_put (D := (dC, dI)) (ci := 1) (v := .int 0) (ty := .int) (C := RX1) (T := TX1) (N := 7) hx hb hts inGX1 tyX1 tyX1_ok nmX1 hown hK hP hD hS 0 rfl rfl 3 (by decide) (hts _ wd79) (fun _ h9 => h9) rfl (by decide +kernel) rfl rfl (Nat.le_of_ble_eq_true rfl) dX1_init_30 (fun H locs hP hD hS => ?_)
    have hP : va_P (dC, dI) vwCl [(o, .inr (1, [.ref p0, .int p1, .int 7, .int 0, .int 0, .int 0, .int 0]))] H := hP
    have hD : va_D A [(o, .inr (1, [.ref p0, .int p1, .int 7, .int 0, .int 0, .int 0, .int 0]))] := hD
    refine lv_aload_n hx hb dX1_init_33 rfl (lv_at hl 0 rfl) ?_
    refine lv_iconst (v := 0) hx hb dX1_init_34 (by decide) ?_
    refine va_put (D := (dC, dI)) (ci := 1) (v := .int 0) (ty := .int) (C := RX1) (T := TX1) (N := 7) hx hb hts inGX1 tyX1 tyX1_ok nmX1 hown hK hP hD hS 0 rfl rfl 4 (by decide) (hts _ wd80) (fun _ h9 => h9) rfl (by decide +kernel) rfl rfl (Nat.le_of_ble_eq_true rfl) dX1_init_35 (fun H locs hP hD hS => ?_)
    have hP : va_P (dC, dI) vwCl [(o, .inr (1, [.ref p0, .int p1, .int 7, .int 0, .int 0, .int 0, .int 0]))] H := hP
    have hD : va_D A [(o, .inr (1, [.ref p0, .int p1, .int 7, .int 0, .int 0, .int 0, .int 0]))] := hD
    refine lv_aload_n hx hb dX1_init_38 rfl (lv_at hl 0 rfl) ?_
    refine lv_iconst (v := 0) hx hb dX1_init_39 (by decide) ?_
    refine va_put (D := (dC, dI)) (ci := 1) (v := .int 0) (ty := .int) (C := RX1) (T := TX1) (N := 7) hx hb hts inGX1 tyX1 tyX1_ok nmX1 hown hK hP hD hS 0 rfl rfl 5 (by decide) (hts _ wd81) (fun _ h9 => h9) rfl (by decide +kernel) rfl rfl (Nat.le_of_ble_eq_true rfl) dX1_init_40 (fun H locs hP hD hS => ?_)
    have hP : va_P (dC, dI) vwCl [(o, .inr (1, [.ref p0, .int p1, .int 7, .int 0, .int 0, .int 0, .int 0]))] H := hP
    have hD : va_D A [(o, .inr (1, [.ref p0, .int p1, .int 7, .int 0, .int 0, .int 0, .int 0]))] := hD
    refine lv_aload_n hx hb dX1_init_43 rfl (lv_at hl 0 rfl) ?_
    refine lv_iconst (v := 0) hx hb dX1_init_44 (by decide) ?_
    refine va_put (D := (dC, dI)) (ci := 1) (v := .int 0) (ty := .int) (C := RX1) (T := TX1) (N := 7) hx hb hts inGX1 tyX1 tyX1_ok nmX1 hown hK hP hD hS 0 rfl rfl 6 (by decide) (hts _ wd82) (fun _ h9 => h9) rfl (by decide +kernel) rfl rfl (Nat.le_of_ble_eq_true rfl) dX1_init_45 (fun H locs hP hD hS => ?_)
    have hP : va_P (dC, dI) vwCl [(o, .inr (1, [.ref p0, .int p1, .int 7, .int 0, .int 0, .int 0, .int 0]))] H := hP
    have hD : va_D A [(o, .inr (1, [.ref p0, .int p1, .int 7, .int 0, .int 0, .int 0, .int 0]))] := hD
    have hP9 := hP.sub (ws' := [(o, .inr (1, [.ref p0, .int p1, .int 7, .int 0, .int 0, .int 0, .int 0]))]) [0] rfl
    have hD9 := hD.sub (ws' := [(o, .inr (1, [.ref p0, .int p1, .int 7, .int 0, .int 0, .int 0, .int 0]))]) [0] (by decide) rfl
    have hK9 := hK.sub (tys' := []) [] rfl
    exact W.vret hx hb hr (fun t ht hW => ⟨⟨((0, 0, 0, 0), 7), rfl, (plX1_init_1 p1 p2 c_16), by rw [ht]; exact hP9, va_K.moved hW.alike hK9, hD9⟩, hS.F ht⟩) hS.2.2 dX1_init_48
def FX2_init (p0 : Int32) (p1 : Int32) : Int32 × Int32 × Int32 × Int32 × Int32 × Rw × Tk × Rw × Tk × Int32 :=
  let x_1 := if p0 < 16 then p0 else 16
  let x_2 := if 0 < x_1 then x_1 else 0
  if p1 = 0 then
    if x_2 = 1 then
      let u_4 := FX0_init 0
      let zhw_5 := FX1_init x_2 0
      let u_6ts := zhw_5.1
      let u_6sb := zhw_5.2
      let u_8 := FX0_init 0
      let zhw_9 := FX1_init x_2 0
      let u_10ts := zhw_9.1
      let u_10sb := zhw_9.2
      (x_2, 0, 0, u_6sb, u_10sb, u_4, u_6ts, u_8, u_10ts, 0)
    else
      let u_12 := FX0_init 0
      let zhw_13 := FX1_init x_2 0
      let u_14ts := zhw_13.1
      let u_14sb := zhw_13.2
      let u_16 := FX0_init 0
      let zhw_17 := FX1_init x_2 0
      let u_18ts := zhw_17.1
      let u_18sb := zhw_17.2
      (x_2, 0, 1, u_14sb, u_18sb, u_12, u_14ts, u_16, u_18ts, 0)
  else
    let u_20 := FX0_init 1
    let zhw_21 := FX1_init x_2 1
    let u_22ts := zhw_21.1
    let u_22sb := zhw_21.2
    let u_24 := FX0_init 1
    let zhw_25 := FX1_init x_2 1
    let u_26ts := zhw_25.1
    let u_26sb := zhw_25.2
    (x_2, 1, 1, u_22sb, u_26sb, u_20, u_22ts, u_24, u_26ts, 0)
set_option maxRecDepth 100000 in
theorem plX2_init_0 (p0 : Int32) (p1 : Int32) (x_1 : Int32) (ex_1 : x_1 = if p0 < 16 then p0 else 16) (x_2 : Int32) (ex_2 : x_2 = if 0 < x_1 then x_1 else 0) (c_20 : p1 = 0) (c_44 : x_2 = 1) (u_4 : Rw) (hw_3 : u_4 = FX0_init 0) (u_6ts : Tk) (u_6sb : Int32) (hw_5 : (u_6ts, u_6sb) = FX1_init x_2 0) (u_8 : Rw) (hw_7 : u_8 = FX0_init 0) (u_10ts : Tk) (u_10sb : Int32) (hw_9 : (u_10ts, u_10sb) = FX1_init x_2 0) : (x_2, 0, 0, u_6sb, u_10sb, u_4, u_6ts, u_8, u_10ts, 0) = FX2_init p0 p1 := by
  subst ex_1
  subst ex_2
  subst hw_3
  have q0 := congrArg (fun z => z.1) hw_5
  have q1 := congrArg (fun z => z.2) hw_5
  dsimp only at q0 q1
  subst q0
  subst q1
  clear hw_5
  subst hw_7
  have q0 := congrArg (fun z => z.1) hw_9
  have q1 := congrArg (fun z => z.2) hw_9
  dsimp only at q0 q1
  subst q0
  subst q1
  clear hw_9
  exact ((if_pos c_20).trans (if_pos c_44)).symm
set_option maxRecDepth 100000 in
theorem plX2_init_1 (p0 : Int32) (p1 : Int32) (x_1 : Int32) (ex_1 : x_1 = if p0 < 16 then p0 else 16) (x_2 : Int32) (ex_2 : x_2 = if 0 < x_1 then x_1 else 0) (c_20 : p1 = 0) (c_44 : ¬ (x_2 = 1)) (u_12 : Rw) (hw_11 : u_12 = FX0_init 0) (u_14ts : Tk) (u_14sb : Int32) (hw_13 : (u_14ts, u_14sb) = FX1_init x_2 0) (u_16 : Rw) (hw_15 : u_16 = FX0_init 0) (u_18ts : Tk) (u_18sb : Int32) (hw_17 : (u_18ts, u_18sb) = FX1_init x_2 0) : (x_2, 0, 1, u_14sb, u_18sb, u_12, u_14ts, u_16, u_18ts, 0) = FX2_init p0 p1 := by
  subst ex_1
  subst ex_2
  subst hw_11
  have q0 := congrArg (fun z => z.1) hw_13
  have q1 := congrArg (fun z => z.2) hw_13
  dsimp only at q0 q1
  subst q0
  subst q1
  clear hw_13
  subst hw_15
  have q0 := congrArg (fun z => z.1) hw_17
  have q1 := congrArg (fun z => z.2) hw_17
  dsimp only at q0 q1
  subst q0
  subst q1
  clear hw_17
  exact ((if_pos c_20).trans (if_neg c_44)).symm
set_option maxRecDepth 100000 in
theorem plX2_init_2 (p0 : Int32) (p1 : Int32) (x_1 : Int32) (ex_1 : x_1 = if p0 < 16 then p0 else 16) (x_2 : Int32) (ex_2 : x_2 = if 0 < x_1 then x_1 else 0) (c_20 : ¬ (p1 = 0)) (u_20 : Rw) (hw_19 : u_20 = FX0_init 1) (u_22ts : Tk) (u_22sb : Int32) (hw_21 : (u_22ts, u_22sb) = FX1_init x_2 1) (u_24 : Rw) (hw_23 : u_24 = FX0_init 1) (u_26ts : Tk) (u_26sb : Int32) (hw_25 : (u_26ts, u_26sb) = FX1_init x_2 1) : (x_2, 1, 1, u_22sb, u_26sb, u_20, u_22ts, u_24, u_26ts, 0) = FX2_init p0 p1 := by
  subst ex_1
  subst ex_2
  subst hw_19
  have q0 := congrArg (fun z => z.1) hw_21
  have q1 := congrArg (fun z => z.2) hw_21
  dsimp only at q0 q1
  subst q0
  subst q1
  clear hw_21
  subst hw_23
  have q0 := congrArg (fun z => z.1) hw_25
  have q1 := congrArg (fun z => z.2) hw_25
  dsimp only at q0 q1
  subst q0
  subst q1
  clear hw_25
  exact (if_neg c_20).symm
set_option maxHeartbeats 4000000 in
set_option maxRecDepth 100000 in
theorem mX2_init (l : Launch) (dC : Nat → ClassId) (dI : Nat → Nat → Nat) (ox : Nat) (sz : Nat) (p0 : Int32) (p1 : Int32) : Met l yX2_init (Cond.code yX2_init cX2_init 3 none :: G) ({ frames := 2, cells := 6, slots := 1220, locals := 35 } : Room) (va_Pc [.ref ox, .int p0, .int p1] (fun U => U.heap.size = sz ∧ va_P (dC, dI) vwCl [(ox, .inr (2, [.int 0, .int 0, .int 0, .null, .null, .null, .null, .int 0]))] U.heap ∧ va_K (dC, dI) vwCl [] U ∧ va_D (fun _ => True) [(ox, .inr (2, [.int 0, .int 0, .int 0, .null, .null, .null, .null, .int 0]))] ∧ zOk U)) (va_Qv (fun (u : Int32 × Int32 × Int32 × Int32 × Int32 × Rw × Tk × Rw × Tk × Int32) => u = (FX2_init p0 p1)) (fun (u : Int32 × Int32 × Int32 × Int32 × Int32 × Rw × Tk × Rw × Tk × Int32) (t : State) => ∃ (ow : Nat) (oaw : Nat) (cIw : ClassId) (og : Nat) (oc : Nat) (oac : Nat) (cIc : ClassId) (od : Nat), va_P (dC, dI) vwCl [(ox, .inr (2, [.int u.1, .int u.2.1, .int u.2.2.1, .ref ow, .ref og, .ref oc, .ref od, .int u.2.2.2.2.2.2.2.2.2])), (ow, .inr (0, [.int u.2.1, .ref oaw, .int u.2.2.2.2.2.1.2])), (oaw, .inl (cIw, 600, .inl u.2.2.2.2.2.1.1)), (og, .inr (1, [.ref ow, .int u.1, .int u.2.2.2.1, .int u.2.2.2.2.2.2.1.1, .int u.2.2.2.2.2.2.1.2.1, .int u.2.2.2.2.2.2.1.2.2.1, .int u.2.2.2.2.2.2.1.2.2.2])), (oc, .inr (0, [.int u.2.1, .ref oac, .int u.2.2.2.2.2.2.2.1.2])), (oac, .inl (cIc, 600, .inl u.2.2.2.2.2.2.2.1.1)), (od, .inr (1, [.ref oc, .int u.1, .int u.2.2.2.2.1, .int u.2.2.2.2.2.2.2.2.1.1, .int u.2.2.2.2.2.2.2.2.1.2.1, .int u.2.2.2.2.2.2.2.2.1.2.2.1, .int u.2.2.2.2.2.2.2.2.1.2.2.2]))] t.heap ∧ va_K (dC, dI) vwCl [(cIw, .int), (cIc, .int)] t ∧ va_D (va_A [(ox, .inr (2, [.int 0, .int 0, .int 0, .null, .null, .null, .null, .int 0]))] sz) [(ox, .inr (2, [.int u.1, .int u.2.1, .int u.2.2.1, .ref ow, .ref og, .ref oc, .ref od, .int u.2.2.2.2.2.2.2.2.2])), (ow, .inr (0, [.int u.2.1, .ref oaw, .int u.2.2.2.2.2.1.2])), (oaw, .inl (cIw, 600, .inl u.2.2.2.2.2.1.1)), (og, .inr (1, [.ref ow, .int u.1, .int u.2.2.2.1, .int u.2.2.2.2.2.2.1.1, .int u.2.2.2.2.2.2.1.2.1, .int u.2.2.2.2.2.2.1.2.2.1, .int u.2.2.2.2.2.2.1.2.2.2])), (oc, .inr (0, [.int u.2.1, .ref oac, .int u.2.2.2.2.2.2.2.1.2])), (oac, .inl (cIc, 600, .inl u.2.2.2.2.2.2.2.1.1)), (od, .inr (1, [.ref oc, .int u.1, .int u.2.2.2.2.1, .int u.2.2.2.2.2.2.2.2.1.1, .int u.2.2.2.2.2.2.2.2.1.2.1, .int u.2.2.2.2.2.2.2.2.1.2.2.1, .int u.2.2.2.2.2.2.2.2.1.2.2.2]))]) (va_A [(ox, .inr (2, [.int 0, .int 0, .int 0, .null, .null, .null, .null, .int 0]))] sz)) 6 1220 (va_A [(ox, .inr (2, [.int 0, .int 0, .int 0, .null, .null, .null, .null, .int 0]))] sz) := by
  refine Met.ofW (cc := cX2_init) (maxL := 3) (ret := none) (by decide) rfl ?_
  intro p e s m args below meth c s₁ B hml hv
  obtain ⟨rfl, hsz, hP, hK, hD0, hZ⟩ := hv
  have hx := B.exec
  have hb := B.bytes
  have hr := B.returns
  have hts : ∀ w ∈ G, w.before [.ref ox, .int p0, .int p1].toArray s = true := fun w h => atoms_spec (ws := (Cond.code yX2_init cX2_init 3 none :: G)) B.pre w (List.mem_cons_of_mem _ h)
  have hown : s.vm.findClass RX2 = some m.cls := findClass_of_methodNamed B.named
  have hlocks := B.notSynchronized
  have hin : meth.name = "<init>" := (name_of_methodNamed B.named B.method).1
  subst hsz
  have hD := hD0.self (sz := s.heap.size)
  generalize hAe : va_A [(ox, .inr (2, [.int 0, .int 0, .int 0, .null, .null, .null, .null, .int 0]))] s.heap.size = A at hD ⊢
  have hA : ∀ q : Nat, s.heap.size ≤ q → A q := fun q h => by rw [← hAe]; exact Or.inr h
  have hS : va_S A s.heap s.heap [] := va_S.rf
  have hP : va_P (dC, dI) vwCl [(ox, .inr (2, [.int 0, .int 0, .int 0, .null, .null, .null, .null, .int 0]))] s.heap := hP
  have hl := lv_entry ([.ref ox, .int p0, .int p1]) (n := 3) (Nat.le_of_ble_eq_true rfl)
  rw [lg_entry_eq]
  generalize (lg_sl ([.ref ox, .int p0, .int p1]) ++ List.replicate (3 - (lg_sl ([.ref ox, .int p0, .int p1])).length) Slot.unset).toArray = ls at hl ⊢
  have hl : lv_has ls 3 [(0, .ref ox), (1, .int p0), (2, .int p1)] := hl
  refine lv_aload_n hx hb dX2_init_0 rfl (lv_at hl 0 rfl) ?_
  refine W.objInit hx hb hown (hts _ wd44) (hts _ wd45) (hts _ wd46) rfl (by rw [hml]; exact hl.1) rfl dX2_init_1 (Nat.le_of_ble_eq_true rfl) (Nat.le_of_ble_eq_true rfl) ?_
  refine W.eq (g2 := F0 m 4 ls []) rfl ?_
  refine lv_aload_n hx hb dX2_init_4 rfl (lv_at hl 0 rfl) ?_
  refine lv_iconst (v := 0) hx hb dX2_init_5 (by decide) ?_
  refine lv_bipush (v := 16) hx hb dX2_init_6 (by decide) ?_
  refine lv_iload_n hx hb dX2_init_8 rfl (lv_at hl 1 rfl) ?_
  refine va_mmin hx hb (hml.trans hl.1.symm) hown (hts _ wd47) (hts _ wd48) (hts _ wd27) (hts _ wd49) (Nat.le_of_ble_eq_true rfl) (Nat.le_of_ble_eq_true rfl) (Nat.le_of_ble_eq_true rfl) (Nat.le_of_ble_eq_true rfl) dX2_init_9 ?_
  refine lv_topi (fun x_1 ex_1 => ?_)
  refine va_mmax hx hb (hml.trans hl.1.symm) hown (hts _ wd50) (hts _ wd51) (hts _ wd27) (hts _ wd52) (Nat.le_of_ble_eq_true rfl) (Nat.le_of_ble_eq_true rfl) (Nat.le_of_ble_eq_true rfl) (Nat.le_of_ble_eq_true rfl) dX2_init_12 ?_
  refine lv_topi (fun x_2 ex_2 => ?_)
  refine va_putF (D := (dC, dI)) (ci := 2) (v := .int x_2) (ty := .int) (C := RX2) (T := TX2) (N := 8) hx hb hts inGX2 tyX2 tyX2_ok nmX2 hown hK hP hD hS 0 rfl rfl 0 (by decide) (hts _ wd98) (fun _ h9 => h9) rfl hin rfl (by decide +kernel) rfl rfl (Nat.le_of_ble_eq_true rfl) dX2_init_15 (fun H locs hP hD hS => ?_)
  have hP : va_P (dC, dI) vwCl [(ox, .inr (2, [.int x_2, .int 0, .int 0, .null, .null, .null, .null, .int 0]))] H := hP
  have hD : va_D A [(ox, .inr (2, [.int x_2, .int 0, .int 0, .null, .null, .null, .null, .int 0]))] := hD
  refine lv_aload_n hx hb dX2_init_18 rfl (lv_at hl 0 rfl) ?_
  refine lv_iload_n hx hb dX2_init_19 rfl (lv_at hl 2 rfl) ?_
  refine lv_if_eq (tgt := 27) hx hb dX2_init_20 (by decide) (fun c_20 => ?_) (fun c_20 => ?_)
  · refine lv_iconst (v := 0) hx hb dX2_init_27 (by decide) ?_
    refine va_putF (D := (dC, dI)) (ci := 2) (v := .int 0) (ty := .boolean) (C := RX2) (T := TX2) (N := 8) hx hb hts inGX2 tyX2 tyX2_ok nmX2 hown hK hP hD hS 0 rfl rfl 1 (by decide) (hts _ wd99) (fun _ h9 => h9) rfl hin rfl (by decide +kernel) rfl rfl (Nat.le_of_ble_eq_true rfl) dX2_init_28 (fun H locs hP hD hS => ?_)
    have hP : va_P (dC, dI) vwCl [(ox, .inr (2, [.int x_2, .int 0, .int 0, .null, .null, .null, .null, .int 0]))] H := hP
    have hD : va_D A [(ox, .inr (2, [.int x_2, .int 0, .int 0, .null, .null, .null, .null, .int 0]))] := hD
    refine lv_aload_n hx hb dX2_init_31 rfl (lv_at hl 0 rfl) ?_
    refine lv_aload_n hx hb dX2_init_32 rfl (lv_at hl 0 rfl) ?_
    refine va_get (D := (dC, dI)) (ci := 2) (v := .int 0) (C := RX2) (T := TX2) (N := 8) hx hb hts inGX2 hown hK hP 0 rfl rfl 1 (by decide) (hts _ wd99) (fun _ h9 => h9) rfl dX2_init_33 ?_
    refine lv_if_ne (tgt := 47) hx hb dX2_init_36 (by decide) (fun c_36 => absurd c_36 (by decide)) (fun c_36 => ?_)
    refine lv_aload_n hx hb dX2_init_39 rfl (lv_at hl 0 rfl) ?_
    refine va_get (D := (dC, dI)) (ci := 2) (v := .int x_2) (C := RX2) (T := TX2) (N := 8) hx hb hts inGX2 hown hK hP 0 rfl rfl 0 (by decide) (hts _ wd98) (fun _ h9 => h9) rfl dX2_init_40 ?_
    refine lv_iconst (v := 1) hx hb dX2_init_43 (by decide) ?_
    refine lv_icmp_eq (tgt := 51) hx hb dX2_init_44 (by decide) (fun c_44 => ?_) (fun c_44 => ?_)
    · refine lv_iconst (v := 0) hx hb dX2_init_51 (by decide) ?_
      refine va_putF (D := (dC, dI)) (ci := 2) (v := .int 0) (ty := .boolean) (C := RX2) (T := TX2) (N := 8) hx hb hts inGX2 tyX2 tyX2_ok nmX2 hown hK hP hD hS 0 rfl rfl 2 (by decide) (hts _ wd100) (fun _ h9 => h9) rfl hin rfl (by decide +kernel) rfl rfl (Nat.le_of_ble_eq_true rfl) dX2_init_52 (fun H locs hP hD hS => ?_)
      have hP : va_P (dC, dI) vwCl [(ox, .inr (2, [.int x_2, .int 0, .int 0, .null, .null, .null, .null, .int 0]))] H := hP
      have hD : va_D A [(ox, .inr (2, [.int x_2, .int 0, .int 0, .null, .null, .null, .null, .int 0]))] := hD
      refine lv_aload_n hx hb dX2_init_55 rfl (lv_at hl 0 rfl) ?_
      refine va_new (ci := 0) (fs := [.int 0, .null, .int 0]) (C := RX0) (T := TX0) (N := 3) hx hb hts inGX0 tyX0 tyX0_ok hown (hts _ wd53) (hts _ wd54) (hts _ wd28) hK hP hD hS hA rfl (fun j hj => by rcases (show j = 0 ∨ j = 1 ∨ j = 2 by omega) with rfl | rfl | rfl <;> rfl) (Nat.le_of_ble_eq_true rfl) (Nat.le_of_ble_eq_true rfl) dX2_init_56 (fun q56 H hP hD hS => ?_)
      have hP : va_P (dC, dI) vwCl [(ox, .inr (2, [.int x_2, .int 0, .int 0, .null, .null, .null, .null, .int 0])), (q56, .inr (0, [.int 0, .null, .int 0]))] H := hP
      have hD : va_D A [(ox, .inr (2, [.int x_2, .int 0, .int 0, .null, .null, .null, .null, .int 0])), (q56, .inr (0, [.int 0, .null, .int 0]))] := hD
      refine W.widen (k := 1) (n := 3) (by omega) (by omega) ?_
      refine lv_dup hx hb dX2_init_59 rfl ?_
      refine lv_aload_n hx hb dX2_init_60 rfl (lv_at hl 0 rfl) ?_
      refine va_get (D := (dC, dI)) (ci := 2) (v := .int 0) (C := RX2) (T := TX2) (N := 8) hx hb hts inGX2 hown hK hP 0 rfl rfl 1 (by decide) (hts _ wd99) (fun _ h9 => h9) rfl dX2_init_61 ?_
      have hPc := hP.sub (ws' := [(q56, .inr (0, [.int 0, .null, .int 0]))]) [1] rfl
      have hKc := hK.sub (tys' := []) [] rfl
      have hDc := hD.sub (ws' := [(q56, .inr (0, [.int 0, .null, .int 0]))]) [1] (by decide) rfl
      have hFc := va_free (wc := [(q56, .inr (0, [.int 0, .null, .int 0]))]) hD hS hA [1] rfl
      refine va_callv (va_runI (As := [.int 0]) (rest := [.ref q56, .ref ox]) ⟨hx, hb, hml, hown, hts⟩ (mX0_init l dC dI q56 H.size 0 rfl rfl) (cwI 1 hts (g_goodIn wd57) rfl rfl rfl (hts _ wd28) (hts _ wd55) (hts _ wd56) rfl (by decide +kernel) ⟨Nat.le_of_ble_eq_true rfl, Nat.le_of_ble_eq_true rfl⟩) ⟨fb_rw, pre_rw hPc hKc hDc hZ⟩ rfl rfl hl.1 rfl (lv_room (Nat.le_of_ble_eq_true rfl)) dX2_init_64 ⟨Nat.le_of_ble_eq_true rfl, Nat.le_of_ble_eq_true rfl⟩) hS (fun q _ h => hFc q h) hFc (fun u_4 t H1 locs ht hvm hw_3 hB hz1 hk1 hS => ?_)
      obtain ⟨oa_64, cI_64, hP1, hK1, hD1⟩ := hB
      rw [ht] at hP1
      obtain ⟨hP, hD⟩ := va_join (wr := [(ox, .inr (2, [.int x_2, .int 0, .int 0, .null, .null, .null, .null, .int 0]))]) (w1 := [(q56, .inr (0, [.int 0, .ref oa_64, .int u_4.2])), (oa_64, .inl (cI_64, 600, .inl u_4.1))]) hP hD [1] [0] rfl rfl (by decide) (by decide) hk1 hFc hP1 hD1
      generalize H1 = H at hP hS ⊢
      have hP : va_P (dC, dI) vwCl [(ox, .inr (2, [.int x_2, .int 0, .int 0, .null, .null, .null, .null, .int 0])), (q56, .inr (0, [.int 0, .ref oa_64, .int u_4.2])), (oa_64, .inl (cI_64, 600, .inl u_4.1))] H := hP
      have hD : va_D A [(ox, .inr (2, [.int x_2, .int 0, .int 0, .null, .null, .null, .null, .int 0])), (q56, .inr (0, [.int 0, .ref oa_64, .int u_4.2])), (oa_64, .inl (cI_64, 600, .inl u_4.1))] := hD
      have hK := hK.app (va_K.moved hvm.symm (hK1.sub (tys' := [(cI_64, .int)]) [0] rfl))
      have hK : va_K (dC, dI) vwCl [(cI_64, .int)] s := hK
      refine W.widen (k := 2) (n := 603) (by omega) (by omega) ?_
      refine va_putF (D := (dC, dI)) (ci := 2) (v := .ref q56) (ty := .object "BitRows$Row") (C := RX2) (T := TX2) (N := 8) hx hb hts inGX2 tyX2 tyX2_ok nmX2 hown hK hP hD hS 0 rfl rfl 3 (by decide) (hts _ wd101) (fun _ h9 => h9) rfl hin rfl (by decide +kernel) rfl rfl (Nat.le_of_ble_eq_true rfl) dX2_init_67 (fun H locs hP hD hS => ?_)
      have hP : va_P (dC, dI) vwCl [(ox, .inr (2, [.int x_2, .int 0, .int 0, .ref q56, .null, .null, .null, .int 0])), (q56, .inr (0, [.int 0, .ref oa_64, .int u_4.2])), (oa_64, .inl (cI_64, 600, .inl u_4.1))] H := hP
      have hD : va_D A [(ox, .inr (2, [.int x_2, .int 0, .int 0, .ref q56, .null, .null, .null, .int 0])), (q56, .inr (0, [.int 0, .ref oa_64, .int u_4.2])), (oa_64, .inl (cI_64, 600, .inl u_4.1))] := hD
      refine lv_aload_n hx hb dX2_init_70 rfl (lv_at hl 0 rfl) ?_
      refine va_new (ci := 1) (fs := [.null, .int 0, .int 0, .int 0, .int 0, .int 0, .int 0]) (C := RX1) (T := TX1) (N := 7) hx hb hts inGX1 tyX1 tyX1_ok hown (hts _ wd70) (hts _ wd71) (hts _ wd29) hK hP hD hS hA rfl (fun j hj => by rcases (show j = 0 ∨ j = 1 ∨ j = 2 ∨ j = 3 ∨ j = 4 ∨ j = 5 ∨ j = 6 by omega) with rfl | rfl | rfl | rfl | rfl | rfl | rfl <;> rfl) (Nat.le_of_ble_eq_true rfl) (Nat.le_of_ble_eq_true rfl) dX2_init_71 (fun q71 H hP hD hS => ?_)
      have hP : va_P (dC, dI) vwCl [(ox, .inr (2, [.int x_2, .int 0, .int 0, .ref q56, .null, .null, .null, .int 0])), (q56, .inr (0, [.int 0, .ref oa_64, .int u_4.2])), (oa_64, .inl (cI_64, 600, .inl u_4.1)), (q71, .inr (1, [.null, .int 0, .int 0, .int 0, .int 0, .int 0, .int 0]))] H := hP
      have hD : va_D A [(ox, .inr (2, [.int x_2, .int 0, .int 0, .ref q56, .null, .null, .null, .int 0])), (q56, .inr (0, [.int 0, .ref oa_64, .int u_4.2])), (oa_64, .inl (cI_64, 600, .inl u_4.1)), (q71, .inr (1, [.null, .int 0, .int 0, .int 0, .int 0, .int 0, .int 0]))] := hD
      refine W.widen (k := 3) (n := 610) (by omega) (by omega) ?_
      refine lv_dup hx hb dX2_init_74 rfl ?_
      refine lv_aload_n hx hb dX2_init_75 rfl (lv_at hl 0 rfl) ?_
      refine va_get (D := (dC, dI)) (ci := 2) (v := .ref q56) (C := RX2) (T := TX2) (N := 8) hx hb hts inGX2 hown hK hP 0 rfl rfl 3 (by decide) (hts _ wd101) (fun _ h9 => h9) rfl dX2_init_76 ?_
      refine lv_aload_n hx hb dX2_init_79 rfl (lv_at hl 0 rfl) ?_
      refine va_get (D := (dC, dI)) (ci := 2) (v := .int x_2) (C := RX2) (T := TX2) (N := 8) hx hb hts inGX2 hown hK hP 0 rfl rfl 0 (by decide) (hts _ wd98) (fun _ h9 => h9) rfl dX2_init_80 ?_
      refine lv_aload_n hx hb dX2_init_83 rfl (lv_at hl 0 rfl) ?_
      refine va_get (D := (dC, dI)) (ci := 2) (v := .int 0) (C := RX2) (T := TX2) (N := 8) hx hb hts inGX2 hown hK hP 0 rfl rfl 1 (by decide) (hts _ wd99) (fun _ h9 => h9) rfl dX2_init_84 ?_
      have hPc := hP.sub (ws' := [(q71, .inr (1, [.null, .int 0, .int 0, .int 0, .int 0, .int 0, .int 0]))]) [3] rfl
      have hKc := hK.sub (tys' := []) [] rfl
      have hDc := hD.sub (ws' := [(q71, .inr (1, [.null, .int 0, .int 0, .int 0, .int 0, .int 0, .int 0]))]) [3] (by decide) rfl
      have hFc := va_free (wc := [(q71, .inr (1, [.null, .int 0, .int 0, .int 0, .int 0, .int 0, .int 0]))]) hD hS hA [3] rfl
      refine va_callv (va_runI (As := [.ref q56, .int x_2, .int 0]) (rest := [.ref q71, .ref ox]) ⟨hx, hb, hml, hown, hts⟩ (mX1_init l dC dI q71 H.size q56 x_2 0) (cwI 3 hts (g_goodIn wd74) rfl rfl rfl (hts _ wd29) (hts _ wd72) (hts _ wd73) rfl (by decide +kernel) ⟨Nat.le_of_ble_eq_true rfl, Nat.le_of_ble_eq_true rfl⟩) ⟨fb_rw, pre_rw hPc hKc hDc hZ⟩ rfl rfl hl.1 rfl (lv_room (Nat.le_of_ble_eq_true rfl)) dX2_init_87 ⟨Nat.le_of_ble_eq_true rfl, Nat.le_of_ble_eq_true rfl⟩) hS (fun q _ h => hFc q h) hFc (fun u_6 t H1 locs ht hvm hw_5 hB hz1 hk1 hS => ?_)
      obtain ⟨u_6ts, u_6sb⟩ := u_6
      obtain ⟨hP1, hK1, hD1⟩ := hB
      rw [ht] at hP1
      obtain ⟨hP, hD⟩ := va_join (wr := [(ox, .inr (2, [.int x_2, .int 0, .int 0, .ref q56, .null, .null, .null, .int 0])), (q56, .inr (0, [.int 0, .ref oa_64, .int u_4.2])), (oa_64, .inl (cI_64, 600, .inl u_4.1))]) (w1 := [(q71, .inr (1, [.ref q56, .int x_2, .int u_6sb, .int u_6ts.1, .int u_6ts.2.1, .int u_6ts.2.2.1, .int u_6ts.2.2.2]))]) hP hD [3] [0, 1, 2] rfl rfl (by decide) (by decide) hk1 hFc hP1 hD1
      generalize H1 = H at hP hS ⊢
      have hP : va_P (dC, dI) vwCl [(ox, .inr (2, [.int x_2, .int 0, .int 0, .ref q56, .null, .null, .null, .int 0])), (q56, .inr (0, [.int 0, .ref oa_64, .int u_4.2])), (oa_64, .inl (cI_64, 600, .inl u_4.1)), (q71, .inr (1, [.ref q56, .int x_2, .int u_6sb, .int u_6ts.1, .int u_6ts.2.1, .int u_6ts.2.2.1, .int u_6ts.2.2.2]))] H := hP
      have hD : va_D A [(ox, .inr (2, [.int x_2, .int 0, .int 0, .ref q56, .null, .null, .null, .int 0])), (q56, .inr (0, [.int 0, .ref oa_64, .int u_4.2])), (oa_64, .inl (cI_64, 600, .inl u_4.1)), (q71, .inr (1, [.ref q56, .int x_2, .int u_6sb, .int u_6ts.1, .int u_6ts.2.1, .int u_6ts.2.2.1, .int u_6ts.2.2.2]))] := hD
      refine va_putF (D := (dC, dI)) (ci := 2) (v := .ref q71) (ty := .object "BitRows$Track") (C := RX2) (T := TX2) (N := 8) hx hb hts inGX2 tyX2 tyX2_ok nmX2 hown hK hP hD hS 0 rfl rfl 4 (by decide) (hts _ wd102) (fun _ h9 => h9) rfl hin rfl (by decide +kernel) rfl rfl (Nat.le_of_ble_eq_true rfl) dX2_init_90 (fun H locs hP hD hS => ?_)
      have hP : va_P (dC, dI) vwCl [(ox, .inr (2, [.int x_2, .int 0, .int 0, .ref q56, .ref q71, .null, .null, .int 0])), (q56, .inr (0, [.int 0, .ref oa_64, .int u_4.2])), (oa_64, .inl (cI_64, 600, .inl u_4.1)), (q71, .inr (1, [.ref q56, .int x_2, .int u_6sb, .int u_6ts.1, .int u_6ts.2.1, .int u_6ts.2.2.1, .int u_6ts.2.2.2]))] H := hP
      have hD : va_D A [(ox, .inr (2, [.int x_2, .int 0, .int 0, .ref q56, .ref q71, .null, .null, .int 0])), (q56, .inr (0, [.int 0, .ref oa_64, .int u_4.2])), (oa_64, .inl (cI_64, 600, .inl u_4.1)), (q71, .inr (1, [.ref q56, .int x_2, .int u_6sb, .int u_6ts.1, .int u_6ts.2.1, .int u_6ts.2.2.1, .int u_6ts.2.2.2]))] := hD
      refine lv_aload_n hx hb dX2_init_93 rfl (lv_at hl 0 rfl) ?_
      refine va_new (ci := 0) (fs := [.int 0, .null, .int 0]) (C := RX0) (T := TX0) (N := 3) hx hb hts inGX0 tyX0 tyX0_ok hown (hts _ wd53) (hts _ wd54) (hts _ wd28) hK hP hD hS hA rfl (fun j hj => by rcases (show j = 0 ∨ j = 1 ∨ j = 2 by omega) with rfl | rfl | rfl <;> rfl) (Nat.le_of_ble_eq_true rfl) (Nat.le_of_ble_eq_true rfl) dX2_init_94 (fun q94 H hP hD hS => ?_)
      have hP : va_P (dC, dI) vwCl [(ox, .inr (2, [.int x_2, .int 0, .int 0, .ref q56, .ref q71, .null, .null, .int 0])), (q56, .inr (0, [.int 0, .ref oa_64, .int u_4.2])), (oa_64, .inl (cI_64, 600, .inl u_4.1)), (q71, .inr (1, [.ref q56, .int x_2, .int u_6sb, .int u_6ts.1, .int u_6ts.2.1, .int u_6ts.2.2.1, .int u_6ts.2.2.2])), (q94, .inr (0, [.int 0, .null, .int 0]))] H := hP
      have hD : va_D A [(ox, .inr (2, [.int x_2, .int 0, .int 0, .ref q56, .ref q71, .null, .null, .int 0])), (q56, .inr (0, [.int 0, .ref oa_64, .int u_4.2])), (oa_64, .inl (cI_64, 600, .inl u_4.1)), (q71, .inr (1, [.ref q56, .int x_2, .int u_6sb, .int u_6ts.1, .int u_6ts.2.1, .int u_6ts.2.2.1, .int u_6ts.2.2.2])), (q94, .inr (0, [.int 0, .null, .int 0]))] := hD
      refine W.widen (k := 4) (n := 613) (by omega) (by omega) ?_
      refine lv_dup hx hb dX2_init_97 rfl ?_
      refine lv_aload_n hx hb dX2_init_98 rfl (lv_at hl 0 rfl) ?_
      refine va_get (D := (dC, dI)) (ci := 2) (v := .int 0) (C := RX2) (T := TX2) (N := 8) hx hb hts inGX2 hown hK hP 0 rfl rfl 1 (by decide) (hts _ wd99) (fun _ h9 => h9) rfl dX2_init_99 ?_
      have hPc := hP.sub (ws' := [(q94, .inr (0, [.int 0, .null, .int 0]))]) [4] rfl
      have hKc := hK.sub (tys' := []) [] rfl
      have hDc := hD.sub (ws' := [(q94, .inr (0, [.int 0, .null, .int 0]))]) [4] (by decide) rfl
      have hFc := va_free (wc := [(q94, .inr (0, [.int 0, .null, .int 0]))]) hD hS hA [4] rfl
      refine va_callv (va_runI (As := [.int 0]) (rest := [.ref q94, .ref ox]) ⟨hx, hb, hml, hown, hts⟩ (mX0_init l dC dI q94 H.size 0 rfl rfl) (cwI 1 hts (g_goodIn wd57) rfl rfl rfl (hts _ wd28) (hts _ wd55) (hts _ wd56) rfl (by decide +kernel) ⟨Nat.le_of_ble_eq_true rfl, Nat.le_of_ble_eq_true rfl⟩) ⟨fb_rw, pre_rw hPc hKc hDc hZ⟩ rfl rfl hl.1 rfl (lv_room (Nat.le_of_ble_eq_true rfl)) dX2_init_102 ⟨Nat.le_of_ble_eq_true rfl, Nat.le_of_ble_eq_true rfl⟩) hS (fun q _ h => hFc q h) hFc (fun u_8 t H1 locs ht hvm hw_7 hB hz1 hk1 hS => ?_)
      obtain ⟨oa_102, cI_102, hP1, hK1, hD1⟩ := hB
      rw [ht] at hP1
      obtain ⟨hP, hD⟩ := va_join (wr := [(ox, .inr (2, [.int x_2, .int 0, .int 0, .ref q56, .ref q71, .null, .null, .int 0])), (q56, .inr (0, [.int 0, .ref oa_64, .int u_4.2])), (oa_64, .inl (cI_64, 600, .inl u_4.1)), (q71, .inr (1, [.ref q56, .int x_2, .int u_6sb, .int u_6ts.1, .int u_6ts.2.1, .int u_6ts.2.2.1, .int u_6ts.2.2.2]))]) (w1 := [(q94, .inr (0, [.int 0, .ref oa_102, .int u_8.2])), (oa_102, .inl (cI_102, 600, .inl u_8.1))]) hP hD [4] [0, 1, 2, 3] rfl rfl (by decide) (by decide) hk1 hFc hP1 hD1
      generalize H1 = H at hP hS ⊢
      have hP : va_P (dC, dI) vwCl [(ox, .inr (2, [.int x_2, .int 0, .int 0, .ref q56, .ref q71, .null, .null, .int 0])), (q56, .inr (0, [.int 0, .ref oa_64, .int u_4.2])), (oa_64, .inl (cI_64, 600, .inl u_4.1)), (q71, .inr (1, [.ref q56, .int x_2, .int u_6sb, .int u_6ts.1, .int u_6ts.2.1, .int u_6ts.2.2.1, .int u_6ts.2.2.2])), (q94, .inr (0, [.int 0, .ref oa_102, .int u_8.2])), (oa_102, .inl (cI_102, 600, .inl u_8.1))] H := hP
      have hD : va_D A [(ox, .inr (2, [.int x_2, .int 0, .int 0, .ref q56, .ref q71, .null, .null, .int 0])), (q56, .inr (0, [.int 0, .ref oa_64, .int u_4.2])), (oa_64, .inl (cI_64, 600, .inl u_4.1)), (q71, .inr (1, [.ref q56, .int x_2, .int u_6sb, .int u_6ts.1, .int u_6ts.2.1, .int u_6ts.2.2.1, .int u_6ts.2.2.2])), (q94, .inr (0, [.int 0, .ref oa_102, .int u_8.2])), (oa_102, .inl (cI_102, 600, .inl u_8.1))] := hD
      have hK := hK.app (va_K.moved hvm.symm (hK1.sub (tys' := [(cI_102, .int)]) [0] rfl))
      have hK : va_K (dC, dI) vwCl [(cI_64, .int), (cI_102, .int)] s := hK
      refine W.widen (k := 5) (n := 1213) (by omega) (by omega) ?_
      refine va_putF (D := (dC, dI)) (ci := 2) (v := .ref q94) (ty := .object "BitRows$Row") (C := RX2) (T := TX2) (N := 8) hx hb hts inGX2 tyX2 tyX2_ok nmX2 hown hK hP hD hS 0 rfl rfl 5 (by decide) (hts _ wd103) (fun _ h9 => h9) rfl hin rfl (by decide +kernel) rfl rfl (Nat.le_of_ble_eq_true rfl) dX2_init_105 (fun H locs hP hD hS => ?_)
      have hP : va_P (dC, dI) vwCl [(ox, .inr (2, [.int x_2, .int 0, .int 0, .ref q56, .ref q71, .ref q94, .null, .int 0])), (q56, .inr (0, [.int 0, .ref oa_64, .int u_4.2])), (oa_64, .inl (cI_64, 600, .inl u_4.1)), (q71, .inr (1, [.ref q56, .int x_2, .int u_6sb, .int u_6ts.1, .int u_6ts.2.1, .int u_6ts.2.2.1, .int u_6ts.2.2.2])), (q94, .inr (0, [.int 0, .ref oa_102, .int u_8.2])), (oa_102, .inl (cI_102, 600, .inl u_8.1))] H := hP
      have hD : va_D A [(ox, .inr (2, [.int x_2, .int 0, .int 0, .ref q56, .ref q71, .ref q94, .null, .int 0])), (q56, .inr (0, [.int 0, .ref oa_64, .int u_4.2])), (oa_64, .inl (cI_64, 600, .inl u_4.1)), (q71, .inr (1, [.ref q56, .int x_2, .int u_6sb, .int u_6ts.1, .int u_6ts.2.1, .int u_6ts.2.2.1, .int u_6ts.2.2.2])), (q94, .inr (0, [.int 0, .ref oa_102, .int u_8.2])), (oa_102, .inl (cI_102, 600, .inl u_8.1))] := hD
      refine lv_aload_n hx hb dX2_init_108 rfl (lv_at hl 0 rfl) ?_
      refine va_new (ci := 1) (fs := [.null, .int 0, .int 0, .int 0, .int 0, .int 0, .int 0]) (C := RX1) (T := TX1) (N := 7) hx hb hts inGX1 tyX1 tyX1_ok hown (hts _ wd70) (hts _ wd71) (hts _ wd29) hK hP hD hS hA rfl (fun j hj => by rcases (show j = 0 ∨ j = 1 ∨ j = 2 ∨ j = 3 ∨ j = 4 ∨ j = 5 ∨ j = 6 by omega) with rfl | rfl | rfl | rfl | rfl | rfl | rfl <;> rfl) (Nat.le_of_ble_eq_true rfl) (Nat.le_of_ble_eq_true rfl) dX2_init_109 (fun q109 H hP hD hS => ?_)
      have hP : va_P (dC, dI) vwCl [(ox, .inr (2, [.int x_2, .int 0, .int 0, .ref q56, .ref q71, .ref q94, .null, .int 0])), (q56, .inr (0, [.int 0, .ref oa_64, .int u_4.2])), (oa_64, .inl (cI_64, 600, .inl u_4.1)), (q71, .inr (1, [.ref q56, .int x_2, .int u_6sb, .int u_6ts.1, .int u_6ts.2.1, .int u_6ts.2.2.1, .int u_6ts.2.2.2])), (q94, .inr (0, [.int 0, .ref oa_102, .int u_8.2])), (oa_102, .inl (cI_102, 600, .inl u_8.1)), (q109, .inr (1, [.null, .int 0, .int 0, .int 0, .int 0, .int 0, .int 0]))] H := hP
      have hD : va_D A [(ox, .inr (2, [.int x_2, .int 0, .int 0, .ref q56, .ref q71, .ref q94, .null, .int 0])), (q56, .inr (0, [.int 0, .ref oa_64, .int u_4.2])), (oa_64, .inl (cI_64, 600, .inl u_4.1)), (q71, .inr (1, [.ref q56, .int x_2, .int u_6sb, .int u_6ts.1, .int u_6ts.2.1, .int u_6ts.2.2.1, .int u_6ts.2.2.2])), (q94, .inr (0, [.int 0, .ref oa_102, .int u_8.2])), (oa_102, .inl (cI_102, 600, .inl u_8.1)), (q109, .inr (1, [.null, .int 0, .int 0, .int 0, .int 0, .int 0, .int 0]))] := hD
      refine W.widen (k := 6) (n := 1220) (by omega) (by omega) ?_
      refine lv_dup hx hb dX2_init_112 rfl ?_
      refine lv_aload_n hx hb dX2_init_113 rfl (lv_at hl 0 rfl) ?_
      refine va_get (D := (dC, dI)) (ci := 2) (v := .ref q94) (C := RX2) (T := TX2) (N := 8) hx hb hts inGX2 hown hK hP 0 rfl rfl 5 (by decide) (hts _ wd103) (fun _ h9 => h9) rfl dX2_init_114 ?_
      refine lv_aload_n hx hb dX2_init_117 rfl (lv_at hl 0 rfl) ?_
      refine va_get (D := (dC, dI)) (ci := 2) (v := .int x_2) (C := RX2) (T := TX2) (N := 8) hx hb hts inGX2 hown hK hP 0 rfl rfl 0 (by decide) (hts _ wd98) (fun _ h9 => h9) rfl dX2_init_118 ?_
      refine lv_aload_n hx hb dX2_init_121 rfl (lv_at hl 0 rfl) ?_
      refine va_get (D := (dC, dI)) (ci := 2) (v := .int 0) (C := RX2) (T := TX2) (N := 8) hx hb hts inGX2 hown hK hP 0 rfl rfl 1 (by decide) (hts _ wd99) (fun _ h9 => h9) rfl dX2_init_122 ?_
      have hPc := hP.sub (ws' := [(q109, .inr (1, [.null, .int 0, .int 0, .int 0, .int 0, .int 0, .int 0]))]) [6] rfl
      have hKc := hK.sub (tys' := []) [] rfl
      have hDc := hD.sub (ws' := [(q109, .inr (1, [.null, .int 0, .int 0, .int 0, .int 0, .int 0, .int 0]))]) [6] (by decide) rfl
      have hFc := va_free (wc := [(q109, .inr (1, [.null, .int 0, .int 0, .int 0, .int 0, .int 0, .int 0]))]) hD hS hA [6] rfl
      refine va_callv (va_runI (As := [.ref q94, .int x_2, .int 0]) (rest := [.ref q109, .ref ox]) ⟨hx, hb, hml, hown, hts⟩ (mX1_init l dC dI q109 H.size q94 x_2 0) (cwI 3 hts (g_goodIn wd74) rfl rfl rfl (hts _ wd29) (hts _ wd72) (hts _ wd73) rfl (by decide +kernel) ⟨Nat.le_of_ble_eq_true rfl, Nat.le_of_ble_eq_true rfl⟩) ⟨fb_rw, pre_rw hPc hKc hDc hZ⟩ rfl rfl hl.1 rfl (lv_room (Nat.le_of_ble_eq_true rfl)) dX2_init_125 ⟨Nat.le_of_ble_eq_true rfl, Nat.le_of_ble_eq_true rfl⟩) hS (fun q _ h => hFc q h) hFc (fun u_10 t H1 locs ht hvm hw_9 hB hz1 hk1 hS => ?_)
      obtain ⟨u_10ts, u_10sb⟩ := u_10
      obtain ⟨hP1, hK1, hD1⟩ := hB
      rw [ht] at hP1
      obtain ⟨hP, hD⟩ := va_join (wr := [(ox, .inr (2, [.int x_2, .int 0, .int 0, .ref q56, .ref q71, .ref q94, .null, .int 0])), (q56, .inr (0, [.int 0, .ref oa_64, .int u_4.2])), (oa_64, .inl (cI_64, 600, .inl u_4.1)), (q71, .inr (1, [.ref q56, .int x_2, .int u_6sb, .int u_6ts.1, .int u_6ts.2.1, .int u_6ts.2.2.1, .int u_6ts.2.2.2])), (q94, .inr (0, [.int 0, .ref oa_102, .int u_8.2])), (oa_102, .inl (cI_102, 600, .inl u_8.1))]) (w1 := [(q109, .inr (1, [.ref q94, .int x_2, .int u_10sb, .int u_10ts.1, .int u_10ts.2.1, .int u_10ts.2.2.1, .int u_10ts.2.2.2]))]) hP hD [6] [0, 1, 2, 3, 4, 5] rfl rfl (by decide) (by decide) hk1 hFc hP1 hD1
      generalize H1 = H at hP hS ⊢
      have hP : va_P (dC, dI) vwCl [(ox, .inr (2, [.int x_2, .int 0, .int 0, .ref q56, .ref q71, .ref q94, .null, .int 0])), (q56, .inr (0, [.int 0, .ref oa_64, .int u_4.2])), (oa_64, .inl (cI_64, 600, .inl u_4.1)), (q71, .inr (1, [.ref q56, .int x_2, .int u_6sb, .int u_6ts.1, .int u_6ts.2.1, .int u_6ts.2.2.1, .int u_6ts.2.2.2])), (q94, .inr (0, [.int 0, .ref oa_102, .int u_8.2])), (oa_102, .inl (cI_102, 600, .inl u_8.1)), (q109, .inr (1, [.ref q94, .int x_2, .int u_10sb, .int u_10ts.1, .int u_10ts.2.1, .int u_10ts.2.2.1, .int u_10ts.2.2.2]))] H := hP
      have hD : va_D A [(ox, .inr (2, [.int x_2, .int 0, .int 0, .ref q56, .ref q71, .ref q94, .null, .int 0])), (q56, .inr (0, [.int 0, .ref oa_64, .int u_4.2])), (oa_64, .inl (cI_64, 600, .inl u_4.1)), (q71, .inr (1, [.ref q56, .int x_2, .int u_6sb, .int u_6ts.1, .int u_6ts.2.1, .int u_6ts.2.2.1, .int u_6ts.2.2.2])), (q94, .inr (0, [.int 0, .ref oa_102, .int u_8.2])), (oa_102, .inl (cI_102, 600, .inl u_8.1)), (q109, .inr (1, [.ref q94, .int x_2, .int u_10sb, .int u_10ts.1, .int u_10ts.2.1, .int u_10ts.2.2.1, .int u_10ts.2.2.2]))] := hD
      refine va_putF (D := (dC, dI)) (ci := 2) (v := .ref q109) (ty := .object "BitRows$Track") (C := RX2) (T := TX2) (N := 8) hx hb hts inGX2 tyX2 tyX2_ok nmX2 hown hK hP hD hS 0 rfl rfl 6 (by decide) (hts _ wd104) (fun _ h9 => h9) rfl hin rfl (by decide +kernel) rfl rfl (Nat.le_of_ble_eq_true rfl) dX2_init_128 (fun H locs hP hD hS => ?_)
      have hP : va_P (dC, dI) vwCl [(ox, .inr (2, [.int x_2, .int 0, .int 0, .ref q56, .ref q71, .ref q94, .ref q109, .int 0])), (q56, .inr (0, [.int 0, .ref oa_64, .int u_4.2])), (oa_64, .inl (cI_64, 600, .inl u_4.1)), (q71, .inr (1, [.ref q56, .int x_2, .int u_6sb, .int u_6ts.1, .int u_6ts.2.1, .int u_6ts.2.2.1, .int u_6ts.2.2.2])), (q94, .inr (0, [.int 0, .ref oa_102, .int u_8.2])), (oa_102, .inl (cI_102, 600, .inl u_8.1)), (q109, .inr (1, [.ref q94, .int x_2, .int u_10sb, .int u_10ts.1, .int u_10ts.2.1, .int u_10ts.2.2.1, .int u_10ts.2.2.2]))] H := hP
      have hD : va_D A [(ox, .inr (2, [.int x_2, .int 0, .int 0, .ref q56, .ref q71, .ref q94, .ref q109, .int 0])), (q56, .inr (0, [.int 0, .ref oa_64, .int u_4.2])), (oa_64, .inl (cI_64, 600, .inl u_4.1)), (q71, .inr (1, [.ref q56, .int x_2, .int u_6sb, .int u_6ts.1, .int u_6ts.2.1, .int u_6ts.2.2.1, .int u_6ts.2.2.2])), (q94, .inr (0, [.int 0, .ref oa_102, .int u_8.2])), (oa_102, .inl (cI_102, 600, .inl u_8.1)), (q109, .inr (1, [.ref q94, .int x_2, .int u_10sb, .int u_10ts.1, .int u_10ts.2.1, .int u_10ts.2.2.1, .int u_10ts.2.2.2]))] := hD
      refine lv_aload_n hx hb dX2_init_131 rfl (lv_at hl 0 rfl) ?_
      refine lv_iconst (v := 0) hx hb dX2_init_132 (by decide) ?_
      refine va_put (D := (dC, dI)) (ci := 2) (v := .int 0) (ty := .boolean) (C := RX2) (T := TX2) (N := 8) hx hb hts inGX2 tyX2 tyX2_ok nmX2 hown hK hP hD hS 0 rfl rfl 7 (by decide) (hts _ wd105) (fun _ h9 => h9) rfl (by decide +kernel) rfl rfl (Nat.le_of_ble_eq_true rfl) dX2_init_133 (fun H locs hP hD hS => ?_)
      have hP : va_P (dC, dI) vwCl [(ox, .inr (2, [.int x_2, .int 0, .int 0, .ref q56, .ref q71, .ref q94, .ref q109, .int 0])), (q56, .inr (0, [.int 0, .ref oa_64, .int u_4.2])), (oa_64, .inl (cI_64, 600, .inl u_4.1)), (q71, .inr (1, [.ref q56, .int x_2, .int u_6sb, .int u_6ts.1, .int u_6ts.2.1, .int u_6ts.2.2.1, .int u_6ts.2.2.2])), (q94, .inr (0, [.int 0, .ref oa_102, .int u_8.2])), (oa_102, .inl (cI_102, 600, .inl u_8.1)), (q109, .inr (1, [.ref q94, .int x_2, .int u_10sb, .int u_10ts.1, .int u_10ts.2.1, .int u_10ts.2.2.1, .int u_10ts.2.2.2]))] H := hP
      have hD : va_D A [(ox, .inr (2, [.int x_2, .int 0, .int 0, .ref q56, .ref q71, .ref q94, .ref q109, .int 0])), (q56, .inr (0, [.int 0, .ref oa_64, .int u_4.2])), (oa_64, .inl (cI_64, 600, .inl u_4.1)), (q71, .inr (1, [.ref q56, .int x_2, .int u_6sb, .int u_6ts.1, .int u_6ts.2.1, .int u_6ts.2.2.1, .int u_6ts.2.2.2])), (q94, .inr (0, [.int 0, .ref oa_102, .int u_8.2])), (oa_102, .inl (cI_102, 600, .inl u_8.1)), (q109, .inr (1, [.ref q94, .int x_2, .int u_10sb, .int u_10ts.1, .int u_10ts.2.1, .int u_10ts.2.2.1, .int u_10ts.2.2.2]))] := hD
      have hP9 := hP.sub (ws' := [(ox, .inr (2, [.int x_2, .int 0, .int 0, .ref q56, .ref q71, .ref q94, .ref q109, .int 0])), (q56, .inr (0, [.int 0, .ref oa_64, .int u_4.2])), (oa_64, .inl (cI_64, 600, .inl u_4.1)), (q71, .inr (1, [.ref q56, .int x_2, .int u_6sb, .int u_6ts.1, .int u_6ts.2.1, .int u_6ts.2.2.1, .int u_6ts.2.2.2])), (q94, .inr (0, [.int 0, .ref oa_102, .int u_8.2])), (oa_102, .inl (cI_102, 600, .inl u_8.1)), (q109, .inr (1, [.ref q94, .int x_2, .int u_10sb, .int u_10ts.1, .int u_10ts.2.1, .int u_10ts.2.2.1, .int u_10ts.2.2.2]))]) [0, 1, 2, 3, 4, 5, 6] rfl
      have hD9 := hD.sub (ws' := [(ox, .inr (2, [.int x_2, .int 0, .int 0, .ref q56, .ref q71, .ref q94, .ref q109, .int 0])), (q56, .inr (0, [.int 0, .ref oa_64, .int u_4.2])), (oa_64, .inl (cI_64, 600, .inl u_4.1)), (q71, .inr (1, [.ref q56, .int x_2, .int u_6sb, .int u_6ts.1, .int u_6ts.2.1, .int u_6ts.2.2.1, .int u_6ts.2.2.2])), (q94, .inr (0, [.int 0, .ref oa_102, .int u_8.2])), (oa_102, .inl (cI_102, 600, .inl u_8.1)), (q109, .inr (1, [.ref q94, .int x_2, .int u_10sb, .int u_10ts.1, .int u_10ts.2.1, .int u_10ts.2.2.1, .int u_10ts.2.2.2]))]) [0, 1, 2, 3, 4, 5, 6] (by decide) rfl
      have hK9 := hK.sub (tys' := [(cI_64, .int), (cI_102, .int)]) [0, 1] rfl
      refine W.widen (k := 6) (n := 1220) (by omega) (by omega) ?_
      exact W.vret hx hb hr (fun t ht hW => ⟨⟨(x_2, 0, 0, u_6sb, u_10sb, u_4, u_6ts, u_8, u_10ts, 0), rfl, (plX2_init_0 p0 p1 _ ex_1 _ ex_2 c_20 c_44 _ hw_3 _ _ hw_5 _ hw_7 _ _ hw_9), q56, oa_64, cI_64, q71, q94, oa_102, cI_102, q109, by rw [ht]; exact hP9, va_K.moved hW.alike hK9, hD9⟩, hS.F ht⟩) hS.2.2 dX2_init_136
    · refine lv_iconst (v := 1) hx hb dX2_init_47 (by decide) ?_
      refine lv_goto (tgt := 52) hx hb dX2_init_48 (by decide) ?_
      refine va_putF (D := (dC, dI)) (ci := 2) (v := .int 1) (ty := .boolean) (C := RX2) (T := TX2) (N := 8) hx hb hts inGX2 tyX2 tyX2_ok nmX2 hown hK hP hD hS 0 rfl rfl 2 (by decide) (hts _ wd100) (fun _ h9 => h9) rfl hin rfl (by decide +kernel) rfl rfl (Nat.le_of_ble_eq_true rfl) dX2_init_52 (fun H locs hP hD hS => ?_)
      have hP : va_P (dC, dI) vwCl [(ox, .inr (2, [.int x_2, .int 0, .int 1, .null, .null, .null, .null, .int 0]))] H := hP
      have hD : va_D A [(ox, .inr (2, [.int x_2, .int 0, .int 1, .null, .null, .null, .null, .int 0]))] := hD
      refine lv_aload_n hx hb dX2_init_55 rfl (lv_at hl 0 rfl) ?_
      refine va_new (ci := 0) (fs := [.int 0, .null, .int 0]) (C := RX0) (T := TX0) (N := 3) hx hb hts inGX0 tyX0 tyX0_ok hown (hts _ wd53) (hts _ wd54) (hts _ wd28) hK hP hD hS hA rfl (fun j hj => by rcases (show j = 0 ∨ j = 1 ∨ j = 2 by omega) with rfl | rfl | rfl <;> rfl) (Nat.le_of_ble_eq_true rfl) (Nat.le_of_ble_eq_true rfl) dX2_init_56 (fun q56 H hP hD hS => ?_)
      have hP : va_P (dC, dI) vwCl [(ox, .inr (2, [.int x_2, .int 0, .int 1, .null, .null, .null, .null, .int 0])), (q56, .inr (0, [.int 0, .null, .int 0]))] H := hP
      have hD : va_D A [(ox, .inr (2, [.int x_2, .int 0, .int 1, .null, .null, .null, .null, .int 0])), (q56, .inr (0, [.int 0, .null, .int 0]))] := hD
      refine W.widen (k := 1) (n := 3) (by omega) (by omega) ?_
      refine lv_dup hx hb dX2_init_59 rfl ?_
      refine lv_aload_n hx hb dX2_init_60 rfl (lv_at hl 0 rfl) ?_
      refine va_get (D := (dC, dI)) (ci := 2) (v := .int 0) (C := RX2) (T := TX2) (N := 8) hx hb hts inGX2 hown hK hP 0 rfl rfl 1 (by decide) (hts _ wd99) (fun _ h9 => h9) rfl dX2_init_61 ?_
      have hPc := hP.sub (ws' := [(q56, .inr (0, [.int 0, .null, .int 0]))]) [1] rfl
      have hKc := hK.sub (tys' := []) [] rfl
      have hDc := hD.sub (ws' := [(q56, .inr (0, [.int 0, .null, .int 0]))]) [1] (by decide) rfl
      have hFc := va_free (wc := [(q56, .inr (0, [.int 0, .null, .int 0]))]) hD hS hA [1] rfl
      refine va_callv (va_runI (As := [.int 0]) (rest := [.ref q56, .ref ox]) ⟨hx, hb, hml, hown, hts⟩ (mX0_init l dC dI q56 H.size 0 rfl rfl) (cwI 1 hts (g_goodIn wd57) rfl rfl rfl (hts _ wd28) (hts _ wd55) (hts _ wd56) rfl (by decide +kernel) ⟨Nat.le_of_ble_eq_true rfl, Nat.le_of_ble_eq_true rfl⟩) ⟨fb_rw, pre_rw hPc hKc hDc hZ⟩ rfl rfl hl.1 rfl (lv_room (Nat.le_of_ble_eq_true rfl)) dX2_init_64 ⟨Nat.le_of_ble_eq_true rfl, Nat.le_of_ble_eq_true rfl⟩) hS (fun q _ h => hFc q h) hFc (fun u_12 t H1 locs ht hvm hw_11 hB hz1 hk1 hS => ?_)
      obtain ⟨oa_64, cI_64, hP1, hK1, hD1⟩ := hB
      rw [ht] at hP1
      obtain ⟨hP, hD⟩ := va_join (wr := [(ox, .inr (2, [.int x_2, .int 0, .int 1, .null, .null, .null, .null, .int 0]))]) (w1 := [(q56, .inr (0, [.int 0, .ref oa_64, .int u_12.2])), (oa_64, .inl (cI_64, 600, .inl u_12.1))]) hP hD [1] [0] rfl rfl (by decide) (by decide) hk1 hFc hP1 hD1
      generalize H1 = H at hP hS ⊢
      have hP : va_P (dC, dI) vwCl [(ox, .inr (2, [.int x_2, .int 0, .int 1, .null, .null, .null, .null, .int 0])), (q56, .inr (0, [.int 0, .ref oa_64, .int u_12.2])), (oa_64, .inl (cI_64, 600, .inl u_12.1))] H := hP
      have hD : va_D A [(ox, .inr (2, [.int x_2, .int 0, .int 1, .null, .null, .null, .null, .int 0])), (q56, .inr (0, [.int 0, .ref oa_64, .int u_12.2])), (oa_64, .inl (cI_64, 600, .inl u_12.1))] := hD
      have hK := hK.app (va_K.moved hvm.symm (hK1.sub (tys' := [(cI_64, .int)]) [0] rfl))
      have hK : va_K (dC, dI) vwCl [(cI_64, .int)] s := hK
      refine W.widen (k := 2) (n := 603) (by omega) (by omega) ?_
      refine va_putF (D := (dC, dI)) (ci := 2) (v := .ref q56) (ty := .object "BitRows$Row") (C := RX2) (T := TX2) (N := 8) hx hb hts inGX2 tyX2 tyX2_ok nmX2 hown hK hP hD hS 0 rfl rfl 3 (by decide) (hts _ wd101) (fun _ h9 => h9) rfl hin rfl (by decide +kernel) rfl rfl (Nat.le_of_ble_eq_true rfl) dX2_init_67 (fun H locs hP hD hS => ?_)
      have hP : va_P (dC, dI) vwCl [(ox, .inr (2, [.int x_2, .int 0, .int 1, .ref q56, .null, .null, .null, .int 0])), (q56, .inr (0, [.int 0, .ref oa_64, .int u_12.2])), (oa_64, .inl (cI_64, 600, .inl u_12.1))] H := hP
      have hD : va_D A [(ox, .inr (2, [.int x_2, .int 0, .int 1, .ref q56, .null, .null, .null, .int 0])), (q56, .inr (0, [.int 0, .ref oa_64, .int u_12.2])), (oa_64, .inl (cI_64, 600, .inl u_12.1))] := hD
      refine lv_aload_n hx hb dX2_init_70 rfl (lv_at hl 0 rfl) ?_
      refine va_new (ci := 1) (fs := [.null, .int 0, .int 0, .int 0, .int 0, .int 0, .int 0]) (C := RX1) (T := TX1) (N := 7) hx hb hts inGX1 tyX1 tyX1_ok hown (hts _ wd70) (hts _ wd71) (hts _ wd29) hK hP hD hS hA rfl (fun j hj => by rcases (show j = 0 ∨ j = 1 ∨ j = 2 ∨ j = 3 ∨ j = 4 ∨ j = 5 ∨ j = 6 by omega) with rfl | rfl | rfl | rfl | rfl | rfl | rfl <;> rfl) (Nat.le_of_ble_eq_true rfl) (Nat.le_of_ble_eq_true rfl) dX2_init_71 (fun q71 H hP hD hS => ?_)
      have hP : va_P (dC, dI) vwCl [(ox, .inr (2, [.int x_2, .int 0, .int 1, .ref q56, .null, .null, .null, .int 0])), (q56, .inr (0, [.int 0, .ref oa_64, .int u_12.2])), (oa_64, .inl (cI_64, 600, .inl u_12.1)), (q71, .inr (1, [.null, .int 0, .int 0, .int 0, .int 0, .int 0, .int 0]))] H := hP
      have hD : va_D A [(ox, .inr (2, [.int x_2, .int 0, .int 1, .ref q56, .null, .null, .null, .int 0])), (q56, .inr (0, [.int 0, .ref oa_64, .int u_12.2])), (oa_64, .inl (cI_64, 600, .inl u_12.1)), (q71, .inr (1, [.null, .int 0, .int 0, .int 0, .int 0, .int 0, .int 0]))] := hD
      refine W.widen (k := 3) (n := 610) (by omega) (by omega) ?_
      refine lv_dup hx hb dX2_init_74 rfl ?_
      refine lv_aload_n hx hb dX2_init_75 rfl (lv_at hl 0 rfl) ?_
      refine va_get (D := (dC, dI)) (ci := 2) (v := .ref q56) (C := RX2) (T := TX2) (N := 8) hx hb hts inGX2 hown hK hP 0 rfl rfl 3 (by decide) (hts _ wd101) (fun _ h9 => h9) rfl dX2_init_76 ?_
      refine lv_aload_n hx hb dX2_init_79 rfl (lv_at hl 0 rfl) ?_
      refine va_get (D := (dC, dI)) (ci := 2) (v := .int x_2) (C := RX2) (T := TX2) (N := 8) hx hb hts inGX2 hown hK hP 0 rfl rfl 0 (by decide) (hts _ wd98) (fun _ h9 => h9) rfl dX2_init_80 ?_
      refine lv_aload_n hx hb dX2_init_83 rfl (lv_at hl 0 rfl) ?_
      refine va_get (D := (dC, dI)) (ci := 2) (v := .int 0) (C := RX2) (T := TX2) (N := 8) hx hb hts inGX2 hown hK hP 0 rfl rfl 1 (by decide) (hts _ wd99) (fun _ h9 => h9) rfl dX2_init_84 ?_
      have hPc := hP.sub (ws' := [(q71, .inr (1, [.null, .int 0, .int 0, .int 0, .int 0, .int 0, .int 0]))]) [3] rfl
      have hKc := hK.sub (tys' := []) [] rfl
      have hDc := hD.sub (ws' := [(q71, .inr (1, [.null, .int 0, .int 0, .int 0, .int 0, .int 0, .int 0]))]) [3] (by decide) rfl
      have hFc := va_free (wc := [(q71, .inr (1, [.null, .int 0, .int 0, .int 0, .int 0, .int 0, .int 0]))]) hD hS hA [3] rfl
      refine va_callv (va_runI (As := [.ref q56, .int x_2, .int 0]) (rest := [.ref q71, .ref ox]) ⟨hx, hb, hml, hown, hts⟩ (mX1_init l dC dI q71 H.size q56 x_2 0) (cwI 3 hts (g_goodIn wd74) rfl rfl rfl (hts _ wd29) (hts _ wd72) (hts _ wd73) rfl (by decide +kernel) ⟨Nat.le_of_ble_eq_true rfl, Nat.le_of_ble_eq_true rfl⟩) ⟨fb_rw, pre_rw hPc hKc hDc hZ⟩ rfl rfl hl.1 rfl (lv_room (Nat.le_of_ble_eq_true rfl)) dX2_init_87 ⟨Nat.le_of_ble_eq_true rfl, Nat.le_of_ble_eq_true rfl⟩) hS (fun q _ h => hFc q h) hFc (fun u_14 t H1 locs ht hvm hw_13 hB hz1 hk1 hS => ?_)
      obtain ⟨u_14ts, u_14sb⟩ := u_14
      obtain ⟨hP1, hK1, hD1⟩ := hB
      rw [ht] at hP1
      obtain ⟨hP, hD⟩ := va_join (wr := [(ox, .inr (2, [.int x_2, .int 0, .int 1, .ref q56, .null, .null, .null, .int 0])), (q56, .inr (0, [.int 0, .ref oa_64, .int u_12.2])), (oa_64, .inl (cI_64, 600, .inl u_12.1))]) (w1 := [(q71, .inr (1, [.ref q56, .int x_2, .int u_14sb, .int u_14ts.1, .int u_14ts.2.1, .int u_14ts.2.2.1, .int u_14ts.2.2.2]))]) hP hD [3] [0, 1, 2] rfl rfl (by decide) (by decide) hk1 hFc hP1 hD1
      generalize H1 = H at hP hS ⊢
      have hP : va_P (dC, dI) vwCl [(ox, .inr (2, [.int x_2, .int 0, .int 1, .ref q56, .null, .null, .null, .int 0])), (q56, .inr (0, [.int 0, .ref oa_64, .int u_12.2])), (oa_64, .inl (cI_64, 600, .inl u_12.1)), (q71, .inr (1, [.ref q56, .int x_2, .int u_14sb, .int u_14ts.1, .int u_14ts.2.1, .int u_14ts.2.2.1, .int u_14ts.2.2.2]))] H := hP
      have hD : va_D A [(ox, .inr (2, [.int x_2, .int 0, .int 1, .ref q56, .null, .null, .null, .int 0])), (q56, .inr (0, [.int 0, .ref oa_64, .int u_12.2])), (oa_64, .inl (cI_64, 600, .inl u_12.1)), (q71, .inr (1, [.ref q56, .int x_2, .int u_14sb, .int u_14ts.1, .int u_14ts.2.1, .int u_14ts.2.2.1, .int u_14ts.2.2.2]))] := hD
      refine va_putF (D := (dC, dI)) (ci := 2) (v := .ref q71) (ty := .object "BitRows$Track") (C := RX2) (T := TX2) (N := 8) hx hb hts inGX2 tyX2 tyX2_ok nmX2 hown hK hP hD hS 0 rfl rfl 4 (by decide) (hts _ wd102) (fun _ h9 => h9) rfl hin rfl (by decide +kernel) rfl rfl (Nat.le_of_ble_eq_true rfl) dX2_init_90 (fun H locs hP hD hS => ?_)
      have hP : va_P (dC, dI) vwCl [(ox, .inr (2, [.int x_2, .int 0, .int 1, .ref q56, .ref q71, .null, .null, .int 0])), (q56, .inr (0, [.int 0, .ref oa_64, .int u_12.2])), (oa_64, .inl (cI_64, 600, .inl u_12.1)), (q71, .inr (1, [.ref q56, .int x_2, .int u_14sb, .int u_14ts.1, .int u_14ts.2.1, .int u_14ts.2.2.1, .int u_14ts.2.2.2]))] H := hP
      have hD : va_D A [(ox, .inr (2, [.int x_2, .int 0, .int 1, .ref q56, .ref q71, .null, .null, .int 0])), (q56, .inr (0, [.int 0, .ref oa_64, .int u_12.2])), (oa_64, .inl (cI_64, 600, .inl u_12.1)), (q71, .inr (1, [.ref q56, .int x_2, .int u_14sb, .int u_14ts.1, .int u_14ts.2.1, .int u_14ts.2.2.1, .int u_14ts.2.2.2]))] := hD
      refine lv_aload_n hx hb dX2_init_93 rfl (lv_at hl 0 rfl) ?_
      refine va_new (ci := 0) (fs := [.int 0, .null, .int 0]) (C := RX0) (T := TX0) (N := 3) hx hb hts inGX0 tyX0 tyX0_ok hown (hts _ wd53) (hts _ wd54) (hts _ wd28) hK hP hD hS hA rfl (fun j hj => by rcases (show j = 0 ∨ j = 1 ∨ j = 2 by omega) with rfl | rfl | rfl <;> rfl) (Nat.le_of_ble_eq_true rfl) (Nat.le_of_ble_eq_true rfl) dX2_init_94 (fun q94 H hP hD hS => ?_)
      have hP : va_P (dC, dI) vwCl [(ox, .inr (2, [.int x_2, .int 0, .int 1, .ref q56, .ref q71, .null, .null, .int 0])), (q56, .inr (0, [.int 0, .ref oa_64, .int u_12.2])), (oa_64, .inl (cI_64, 600, .inl u_12.1)), (q71, .inr (1, [.ref q56, .int x_2, .int u_14sb, .int u_14ts.1, .int u_14ts.2.1, .int u_14ts.2.2.1, .int u_14ts.2.2.2])), (q94, .inr (0, [.int 0, .null, .int 0]))] H := hP
      have hD : va_D A [(ox, .inr (2, [.int x_2, .int 0, .int 1, .ref q56, .ref q71, .null, .null, .int 0])), (q56, .inr (0, [.int 0, .ref oa_64, .int u_12.2])), (oa_64, .inl (cI_64, 600, .inl u_12.1)), (q71, .inr (1, [.ref q56, .int x_2, .int u_14sb, .int u_14ts.1, .int u_14ts.2.1, .int u_14ts.2.2.1, .int u_14ts.2.2.2])), (q94, .inr (0, [.int 0, .null, .int 0]))] := hD
      refine W.widen (k := 4) (n := 613) (by omega) (by omega) ?_
      refine lv_dup hx hb dX2_init_97 rfl ?_
      refine lv_aload_n hx hb dX2_init_98 rfl (lv_at hl 0 rfl) ?_
      refine va_get (D := (dC, dI)) (ci := 2) (v := .int 0) (C := RX2) (T := TX2) (N := 8) hx hb hts inGX2 hown hK hP 0 rfl rfl 1 (by decide) (hts _ wd99) (fun _ h9 => h9) rfl dX2_init_99 ?_
      have hPc := hP.sub (ws' := [(q94, .inr (0, [.int 0, .null, .int 0]))]) [4] rfl
      have hKc := hK.sub (tys' := []) [] rfl
      have hDc := hD.sub (ws' := [(q94, .inr (0, [.int 0, .null, .int 0]))]) [4] (by decide) rfl
      have hFc := va_free (wc := [(q94, .inr (0, [.int 0, .null, .int 0]))]) hD hS hA [4] rfl
      refine va_callv (va_runI (As := [.int 0]) (rest := [.ref q94, .ref ox]) ⟨hx, hb, hml, hown, hts⟩ (mX0_init l dC dI q94 H.size 0 rfl rfl) (cwI 1 hts (g_goodIn wd57) rfl rfl rfl (hts _ wd28) (hts _ wd55) (hts _ wd56) rfl (by decide +kernel) ⟨Nat.le_of_ble_eq_true rfl, Nat.le_of_ble_eq_true rfl⟩) ⟨fb_rw, pre_rw hPc hKc hDc hZ⟩ rfl rfl hl.1 rfl (lv_room (Nat.le_of_ble_eq_true rfl)) dX2_init_102 ⟨Nat.le_of_ble_eq_true rfl, Nat.le_of_ble_eq_true rfl⟩) hS (fun q _ h => hFc q h) hFc (fun u_16 t H1 locs ht hvm hw_15 hB hz1 hk1 hS => ?_)
      obtain ⟨oa_102, cI_102, hP1, hK1, hD1⟩ := hB
      rw [ht] at hP1
      obtain ⟨hP, hD⟩ := va_join (wr := [(ox, .inr (2, [.int x_2, .int 0, .int 1, .ref q56, .ref q71, .null, .null, .int 0])), (q56, .inr (0, [.int 0, .ref oa_64, .int u_12.2])), (oa_64, .inl (cI_64, 600, .inl u_12.1)), (q71, .inr (1, [.ref q56, .int x_2, .int u_14sb, .int u_14ts.1, .int u_14ts.2.1, .int u_14ts.2.2.1, .int u_14ts.2.2.2]))]) (w1 := [(q94, .inr (0, [.int 0, .ref oa_102, .int u_16.2])), (oa_102, .inl (cI_102, 600, .inl u_16.1))]) hP hD [4] [0, 1, 2, 3] rfl rfl (by decide) (by decide) hk1 hFc hP1 hD1
      generalize H1 = H at hP hS ⊢
      have hP : va_P (dC, dI) vwCl [(ox, .inr (2, [.int x_2, .int 0, .int 1, .ref q56, .ref q71, .null, .null, .int 0])), (q56, .inr (0, [.int 0, .ref oa_64, .int u_12.2])), (oa_64, .inl (cI_64, 600, .inl u_12.1)), (q71, .inr (1, [.ref q56, .int x_2, .int u_14sb, .int u_14ts.1, .int u_14ts.2.1, .int u_14ts.2.2.1, .int u_14ts.2.2.2])), (q94, .inr (0, [.int 0, .ref oa_102, .int u_16.2])), (oa_102, .inl (cI_102, 600, .inl u_16.1))] H := hP
      have hD : va_D A [(ox, .inr (2, [.int x_2, .int 0, .int 1, .ref q56, .ref q71, .null, .null, .int 0])), (q56, .inr (0, [.int 0, .ref oa_64, .int u_12.2])), (oa_64, .inl (cI_64, 600, .inl u_12.1)), (q71, .inr (1, [.ref q56, .int x_2, .int u_14sb, .int u_14ts.1, .int u_14ts.2.1, .int u_14ts.2.2.1, .int u_14ts.2.2.2])), (q94, .inr (0, [.int 0, .ref oa_102, .int u_16.2])), (oa_102, .inl (cI_102, 600, .inl u_16.1))] := hD
      have hK := hK.app (va_K.moved hvm.symm (hK1.sub (tys' := [(cI_102, .int)]) [0] rfl))
      have hK : va_K (dC, dI) vwCl [(cI_64, .int), (cI_102, .int)] s := hK
      refine W.widen (k := 5) (n := 1213) (by omega) (by omega) ?_
      refine va_putF (D := (dC, dI)) (ci := 2) (v := .ref q94) (ty := .object "BitRows$Row") (C := RX2) (T := TX2) (N := 8) hx hb hts inGX2 tyX2 tyX2_ok nmX2 hown hK hP hD hS 0 rfl rfl 5 (by decide) (hts _ wd103) (fun _ h9 => h9) rfl hin rfl (by decide +kernel) rfl rfl (Nat.le_of_ble_eq_true rfl) dX2_init_105 (fun H locs hP hD hS => ?_)
      have hP : va_P (dC, dI) vwCl [(ox, .inr (2, [.int x_2, .int 0, .int 1, .ref q56, .ref q71, .ref q94, .null, .int 0])), (q56, .inr (0, [.int 0, .ref oa_64, .int u_12.2])), (oa_64, .inl (cI_64, 600, .inl u_12.1)), (q71, .inr (1, [.ref q56, .int x_2, .int u_14sb, .int u_14ts.1, .int u_14ts.2.1, .int u_14ts.2.2.1, .int u_14ts.2.2.2])), (q94, .inr (0, [.int 0, .ref oa_102, .int u_16.2])), (oa_102, .inl (cI_102, 600, .inl u_16.1))] H := hP
      have hD : va_D A [(ox, .inr (2, [.int x_2, .int 0, .int 1, .ref q56, .ref q71, .ref q94, .null, .int 0])), (q56, .inr (0, [.int 0, .ref oa_64, .int u_12.2])), (oa_64, .inl (cI_64, 600, .inl u_12.1)), (q71, .inr (1, [.ref q56, .int x_2, .int u_14sb, .int u_14ts.1, .int u_14ts.2.1, .int u_14ts.2.2.1, .int u_14ts.2.2.2])), (q94, .inr (0, [.int 0, .ref oa_102, .int u_16.2])), (oa_102, .inl (cI_102, 600, .inl u_16.1))] := hD
      refine lv_aload_n hx hb dX2_init_108 rfl (lv_at hl 0 rfl) ?_
      refine va_new (ci := 1) (fs := [.null, .int 0, .int 0, .int 0, .int 0, .int 0, .int 0]) (C := RX1) (T := TX1) (N := 7) hx hb hts inGX1 tyX1 tyX1_ok hown (hts _ wd70) (hts _ wd71) (hts _ wd29) hK hP hD hS hA rfl (fun j hj => by rcases (show j = 0 ∨ j = 1 ∨ j = 2 ∨ j = 3 ∨ j = 4 ∨ j = 5 ∨ j = 6 by omega) with rfl | rfl | rfl | rfl | rfl | rfl | rfl <;> rfl) (Nat.le_of_ble_eq_true rfl) (Nat.le_of_ble_eq_true rfl) dX2_init_109 (fun q109 H hP hD hS => ?_)
      have hP : va_P (dC, dI) vwCl [(ox, .inr (2, [.int x_2, .int 0, .int 1, .ref q56, .ref q71, .ref q94, .null, .int 0])), (q56, .inr (0, [.int 0, .ref oa_64, .int u_12.2])), (oa_64, .inl (cI_64, 600, .inl u_12.1)), (q71, .inr (1, [.ref q56, .int x_2, .int u_14sb, .int u_14ts.1, .int u_14ts.2.1, .int u_14ts.2.2.1, .int u_14ts.2.2.2])), (q94, .inr (0, [.int 0, .ref oa_102, .int u_16.2])), (oa_102, .inl (cI_102, 600, .inl u_16.1)), (q109, .inr (1, [.null, .int 0, .int 0, .int 0, .int 0, .int 0, .int 0]))] H := hP
      have hD : va_D A [(ox, .inr (2, [.int x_2, .int 0, .int 1, .ref q56, .ref q71, .ref q94, .null, .int 0])), (q56, .inr (0, [.int 0, .ref oa_64, .int u_12.2])), (oa_64, .inl (cI_64, 600, .inl u_12.1)), (q71, .inr (1, [.ref q56, .int x_2, .int u_14sb, .int u_14ts.1, .int u_14ts.2.1, .int u_14ts.2.2.1, .int u_14ts.2.2.2])), (q94, .inr (0, [.int 0, .ref oa_102, .int u_16.2])), (oa_102, .inl (cI_102, 600, .inl u_16.1)), (q109, .inr (1, [.null, .int 0, .int 0, .int 0, .int 0, .int 0, .int 0]))] := hD
      refine W.widen (k := 6) (n := 1220) (by omega) (by omega) ?_
      refine lv_dup hx hb dX2_init_112 rfl ?_
      refine lv_aload_n hx hb dX2_init_113 rfl (lv_at hl 0 rfl) ?_
      refine va_get (D := (dC, dI)) (ci := 2) (v := .ref q94) (C := RX2) (T := TX2) (N := 8) hx hb hts inGX2 hown hK hP 0 rfl rfl 5 (by decide) (hts _ wd103) (fun _ h9 => h9) rfl dX2_init_114 ?_
      refine lv_aload_n hx hb dX2_init_117 rfl (lv_at hl 0 rfl) ?_
      refine va_get (D := (dC, dI)) (ci := 2) (v := .int x_2) (C := RX2) (T := TX2) (N := 8) hx hb hts inGX2 hown hK hP 0 rfl rfl 0 (by decide) (hts _ wd98) (fun _ h9 => h9) rfl dX2_init_118 ?_
      refine lv_aload_n hx hb dX2_init_121 rfl (lv_at hl 0 rfl) ?_
      refine va_get (D := (dC, dI)) (ci := 2) (v := .int 0) (C := RX2) (T := TX2) (N := 8) hx hb hts inGX2 hown hK hP 0 rfl rfl 1 (by decide) (hts _ wd99) (fun _ h9 => h9) rfl dX2_init_122 ?_
      have hPc := hP.sub (ws' := [(q109, .inr (1, [.null, .int 0, .int 0, .int 0, .int 0, .int 0, .int 0]))]) [6] rfl
      have hKc := hK.sub (tys' := []) [] rfl
      have hDc := hD.sub (ws' := [(q109, .inr (1, [.null, .int 0, .int 0, .int 0, .int 0, .int 0, .int 0]))]) [6] (by decide) rfl
      have hFc := va_free (wc := [(q109, .inr (1, [.null, .int 0, .int 0, .int 0, .int 0, .int 0, .int 0]))]) hD hS hA [6] rfl
      refine va_callv (va_runI (As := [.ref q94, .int x_2, .int 0]) (rest := [.ref q109, .ref ox]) ⟨hx, hb, hml, hown, hts⟩ (mX1_init l dC dI q109 H.size q94 x_2 0) (cwI 3 hts (g_goodIn wd74) rfl rfl rfl (hts _ wd29) (hts _ wd72) (hts _ wd73) rfl (by decide +kernel) ⟨Nat.le_of_ble_eq_true rfl, Nat.le_of_ble_eq_true rfl⟩) ⟨fb_rw, pre_rw hPc hKc hDc hZ⟩ rfl rfl hl.1 rfl (lv_room (Nat.le_of_ble_eq_true rfl)) dX2_init_125 ⟨Nat.le_of_ble_eq_true rfl, Nat.le_of_ble_eq_true rfl⟩) hS (fun q _ h => hFc q h) hFc (fun u_18 t H1 locs ht hvm hw_17 hB hz1 hk1 hS => ?_)
      obtain ⟨u_18ts, u_18sb⟩ := u_18
      obtain ⟨hP1, hK1, hD1⟩ := hB
      rw [ht] at hP1
      obtain ⟨hP, hD⟩ := va_join (wr := [(ox, .inr (2, [.int x_2, .int 0, .int 1, .ref q56, .ref q71, .ref q94, .null, .int 0])), (q56, .inr (0, [.int 0, .ref oa_64, .int u_12.2])), (oa_64, .inl (cI_64, 600, .inl u_12.1)), (q71, .inr (1, [.ref q56, .int x_2, .int u_14sb, .int u_14ts.1, .int u_14ts.2.1, .int u_14ts.2.2.1, .int u_14ts.2.2.2])), (q94, .inr (0, [.int 0, .ref oa_102, .int u_16.2])), (oa_102, .inl (cI_102, 600, .inl u_16.1))]) (w1 := [(q109, .inr (1, [.ref q94, .int x_2, .int u_18sb, .int u_18ts.1, .int u_18ts.2.1, .int u_18ts.2.2.1, .int u_18ts.2.2.2]))]) hP hD [6] [0, 1, 2, 3, 4, 5] rfl rfl (by decide) (by decide) hk1 hFc hP1 hD1
      generalize H1 = H at hP hS ⊢
      have hP : va_P (dC, dI) vwCl [(ox, .inr (2, [.int x_2, .int 0, .int 1, .ref q56, .ref q71, .ref q94, .null, .int 0])), (q56, .inr (0, [.int 0, .ref oa_64, .int u_12.2])), (oa_64, .inl (cI_64, 600, .inl u_12.1)), (q71, .inr (1, [.ref q56, .int x_2, .int u_14sb, .int u_14ts.1, .int u_14ts.2.1, .int u_14ts.2.2.1, .int u_14ts.2.2.2])), (q94, .inr (0, [.int 0, .ref oa_102, .int u_16.2])), (oa_102, .inl (cI_102, 600, .inl u_16.1)), (q109, .inr (1, [.ref q94, .int x_2, .int u_18sb, .int u_18ts.1, .int u_18ts.2.1, .int u_18ts.2.2.1, .int u_18ts.2.2.2]))] H := hP
      have hD : va_D A [(ox, .inr (2, [.int x_2, .int 0, .int 1, .ref q56, .ref q71, .ref q94, .null, .int 0])), (q56, .inr (0, [.int 0, .ref oa_64, .int u_12.2])), (oa_64, .inl (cI_64, 600, .inl u_12.1)), (q71, .inr (1, [.ref q56, .int x_2, .int u_14sb, .int u_14ts.1, .int u_14ts.2.1, .int u_14ts.2.2.1, .int u_14ts.2.2.2])), (q94, .inr (0, [.int 0, .ref oa_102, .int u_16.2])), (oa_102, .inl (cI_102, 600, .inl u_16.1)), (q109, .inr (1, [.ref q94, .int x_2, .int u_18sb, .int u_18ts.1, .int u_18ts.2.1, .int u_18ts.2.2.1, .int u_18ts.2.2.2]))] := hD
      refine va_putF (D := (dC, dI)) (ci := 2) (v := .ref q109) (ty := .object "BitRows$Track") (C := RX2) (T := TX2) (N := 8) hx hb hts inGX2 tyX2 tyX2_ok nmX2 hown hK hP hD hS 0 rfl rfl 6 (by decide) (hts _ wd104) (fun _ h9 => h9) rfl hin rfl (by decide +kernel) rfl rfl (Nat.le_of_ble_eq_true rfl) dX2_init_128 (fun H locs hP hD hS => ?_)
      have hP : va_P (dC, dI) vwCl [(ox, .inr (2, [.int x_2, .int 0, .int 1, .ref q56, .ref q71, .ref q94, .ref q109, .int 0])), (q56, .inr (0, [.int 0, .ref oa_64, .int u_12.2])), (oa_64, .inl (cI_64, 600, .inl u_12.1)), (q71, .inr (1, [.ref q56, .int x_2, .int u_14sb, .int u_14ts.1, .int u_14ts.2.1, .int u_14ts.2.2.1, .int u_14ts.2.2.2])), (q94, .inr (0, [.int 0, .ref oa_102, .int u_16.2])), (oa_102, .inl (cI_102, 600, .inl u_16.1)), (q109, .inr (1, [.ref q94, .int x_2, .int u_18sb, .int u_18ts.1, .int u_18ts.2.1, .int u_18ts.2.2.1, .int u_18ts.2.2.2]))] H := hP
      have hD : va_D A [(ox, .inr (2, [.int x_2, .int 0, .int 1, .ref q56, .ref q71, .ref q94, .ref q109, .int 0])), (q56, .inr (0, [.int 0, .ref oa_64, .int u_12.2])), (oa_64, .inl (cI_64, 600, .inl u_12.1)), (q71, .inr (1, [.ref q56, .int x_2, .int u_14sb, .int u_14ts.1, .int u_14ts.2.1, .int u_14ts.2.2.1, .int u_14ts.2.2.2])), (q94, .inr (0, [.int 0, .ref oa_102, .int u_16.2])), (oa_102, .inl (cI_102, 600, .inl u_16.1)), (q109, .inr (1, [.ref q94, .int x_2, .int u_18sb, .int u_18ts.1, .int u_18ts.2.1, .int u_18ts.2.2.1, .int u_18ts.2.2.2]))] := hD
      refine lv_aload_n hx hb dX2_init_131 rfl (lv_at hl 0 rfl) ?_
      refine lv_iconst (v := 0) hx hb dX2_init_132 (by decide) ?_
      refine va_put (D := (dC, dI)) (ci := 2) (v := .int 0) (ty := .boolean) (C := RX2) (T := TX2) (N := 8) hx hb hts inGX2 tyX2 tyX2_ok nmX2 hown hK hP hD hS 0 rfl rfl 7 (by decide) (hts _ wd105) (fun _ h9 => h9) rfl (by decide +kernel) rfl rfl (Nat.le_of_ble_eq_true rfl) dX2_init_133 (fun H locs hP hD hS => ?_)
      have hP : va_P (dC, dI) vwCl [(ox, .inr (2, [.int x_2, .int 0, .int 1, .ref q56, .ref q71, .ref q94, .ref q109, .int 0])), (q56, .inr (0, [.int 0, .ref oa_64, .int u_12.2])), (oa_64, .inl (cI_64, 600, .inl u_12.1)), (q71, .inr (1, [.ref q56, .int x_2, .int u_14sb, .int u_14ts.1, .int u_14ts.2.1, .int u_14ts.2.2.1, .int u_14ts.2.2.2])), (q94, .inr (0, [.int 0, .ref oa_102, .int u_16.2])), (oa_102, .inl (cI_102, 600, .inl u_16.1)), (q109, .inr (1, [.ref q94, .int x_2, .int u_18sb, .int u_18ts.1, .int u_18ts.2.1, .int u_18ts.2.2.1, .int u_18ts.2.2.2]))] H := hP
      have hD : va_D A [(ox, .inr (2, [.int x_2, .int 0, .int 1, .ref q56, .ref q71, .ref q94, .ref q109, .int 0])), (q56, .inr (0, [.int 0, .ref oa_64, .int u_12.2])), (oa_64, .inl (cI_64, 600, .inl u_12.1)), (q71, .inr (1, [.ref q56, .int x_2, .int u_14sb, .int u_14ts.1, .int u_14ts.2.1, .int u_14ts.2.2.1, .int u_14ts.2.2.2])), (q94, .inr (0, [.int 0, .ref oa_102, .int u_16.2])), (oa_102, .inl (cI_102, 600, .inl u_16.1)), (q109, .inr (1, [.ref q94, .int x_2, .int u_18sb, .int u_18ts.1, .int u_18ts.2.1, .int u_18ts.2.2.1, .int u_18ts.2.2.2]))] := hD
      have hP9 := hP.sub (ws' := [(ox, .inr (2, [.int x_2, .int 0, .int 1, .ref q56, .ref q71, .ref q94, .ref q109, .int 0])), (q56, .inr (0, [.int 0, .ref oa_64, .int u_12.2])), (oa_64, .inl (cI_64, 600, .inl u_12.1)), (q71, .inr (1, [.ref q56, .int x_2, .int u_14sb, .int u_14ts.1, .int u_14ts.2.1, .int u_14ts.2.2.1, .int u_14ts.2.2.2])), (q94, .inr (0, [.int 0, .ref oa_102, .int u_16.2])), (oa_102, .inl (cI_102, 600, .inl u_16.1)), (q109, .inr (1, [.ref q94, .int x_2, .int u_18sb, .int u_18ts.1, .int u_18ts.2.1, .int u_18ts.2.2.1, .int u_18ts.2.2.2]))]) [0, 1, 2, 3, 4, 5, 6] rfl
      have hD9 := hD.sub (ws' := [(ox, .inr (2, [.int x_2, .int 0, .int 1, .ref q56, .ref q71, .ref q94, .ref q109, .int 0])), (q56, .inr (0, [.int 0, .ref oa_64, .int u_12.2])), (oa_64, .inl (cI_64, 600, .inl u_12.1)), (q71, .inr (1, [.ref q56, .int x_2, .int u_14sb, .int u_14ts.1, .int u_14ts.2.1, .int u_14ts.2.2.1, .int u_14ts.2.2.2])), (q94, .inr (0, [.int 0, .ref oa_102, .int u_16.2])), (oa_102, .inl (cI_102, 600, .inl u_16.1)), (q109, .inr (1, [.ref q94, .int x_2, .int u_18sb, .int u_18ts.1, .int u_18ts.2.1, .int u_18ts.2.2.1, .int u_18ts.2.2.2]))]) [0, 1, 2, 3, 4, 5, 6] (by decide) rfl
      have hK9 := hK.sub (tys' := [(cI_64, .int), (cI_102, .int)]) [0, 1] rfl
      refine W.widen (k := 6) (n := 1220) (by omega) (by omega) ?_
      exact W.vret hx hb hr (fun t ht hW => ⟨⟨(x_2, 0, 1, u_14sb, u_18sb, u_12, u_14ts, u_16, u_18ts, 0), rfl, (plX2_init_1 p0 p1 _ ex_1 _ ex_2 c_20 c_44 _ hw_11 _ _ hw_13 _ hw_15 _ _ hw_17), q56, oa_64, cI_64, q71, q94, oa_102, cI_102, q109, by rw [ht]; exact hP9, va_K.moved hW.alike hK9, hD9⟩, hS.F ht⟩) hS.2.2 dX2_init_136
  · refine lv_iconst (v := 1) hx hb dX2_init_23 (by decide) ?_
    refine lv_goto (tgt := 28) hx hb dX2_init_24 (by decide) ?_
    refine va_putF (D := (dC, dI)) (ci := 2) (v := .int 1) (ty := .boolean) (C := RX2) (T := TX2) (N := 8) hx hb hts inGX2 tyX2 tyX2_ok nmX2 hown hK hP hD hS 0 rfl rfl 1 (by decide) (hts _ wd99) (fun _ h9 => h9) rfl hin rfl (by decide +kernel) rfl rfl (Nat.le_of_ble_eq_true rfl) dX2_init_28 (fun H locs hP hD hS => ?_)
    have hP : va_P (dC, dI) vwCl [(ox, .inr (2, [.int x_2, .int 1, .int 0, .null, .null, .null, .null, .int 0]))] H := hP
    have hD : va_D A [(ox, .inr (2, [.int x_2, .int 1, .int 0, .null, .null, .null, .null, .int 0]))] := hD
    refine lv_aload_n hx hb dX2_init_31 rfl (lv_at hl 0 rfl) ?_
    refine lv_aload_n hx hb dX2_init_32 rfl (lv_at hl 0 rfl) ?_
    refine va_get (D := (dC, dI)) (ci := 2) (v := .int 1) (C := RX2) (T := TX2) (N := 8) hx hb hts inGX2 hown hK hP 0 rfl rfl 1 (by decide) (hts _ wd99) (fun _ h9 => h9) rfl dX2_init_33 ?_
    refine lv_if_ne (tgt := 47) hx hb dX2_init_36 (by decide) (fun c_36 => ?_) (fun c_36 => absurd c_36 (by decide))
    refine lv_iconst (v := 1) hx hb dX2_init_47 (by decide) ?_
    refine lv_goto (tgt := 52) hx hb dX2_init_48 (by decide) ?_
    refine va_putF (D := (dC, dI)) (ci := 2) (v := .int 1) (ty := .boolean) (C := RX2) (T := TX2) (N := 8) hx hb hts inGX2 tyX2 tyX2_ok nmX2 hown hK hP hD hS 0 rfl rfl 2 (by decide) (hts _ wd100) (fun _ h9 => h9) rfl hin rfl (by decide +kernel) rfl rfl (Nat.le_of_ble_eq_true rfl) dX2_init_52 (fun H locs hP hD hS => ?_)
    have hP : va_P (dC, dI) vwCl [(ox, .inr (2, [.int x_2, .int 1, .int 1, .null, .null, .null, .null, .int 0]))] H := hP
    have hD : va_D A [(ox, .inr (2, [.int x_2, .int 1, .int 1, .null, .null, .null, .null, .int 0]))] := hD
    refine lv_aload_n hx hb dX2_init_55 rfl (lv_at hl 0 rfl) ?_
    refine va_new (ci := 0) (fs := [.int 0, .null, .int 0]) (C := RX0) (T := TX0) (N := 3) hx hb hts inGX0 tyX0 tyX0_ok hown (hts _ wd53) (hts _ wd54) (hts _ wd28) hK hP hD hS hA rfl (fun j hj => by rcases (show j = 0 ∨ j = 1 ∨ j = 2 by omega) with rfl | rfl | rfl <;> rfl) (Nat.le_of_ble_eq_true rfl) (Nat.le_of_ble_eq_true rfl) dX2_init_56 (fun q56 H hP hD hS => ?_)
    have hP : va_P (dC, dI) vwCl [(ox, .inr (2, [.int x_2, .int 1, .int 1, .null, .null, .null, .null, .int 0])), (q56, .inr (0, [.int 0, .null, .int 0]))] H := hP
    have hD : va_D A [(ox, .inr (2, [.int x_2, .int 1, .int 1, .null, .null, .null, .null, .int 0])), (q56, .inr (0, [.int 0, .null, .int 0]))] := hD
    refine W.widen (k := 1) (n := 3) (by omega) (by omega) ?_
    refine lv_dup hx hb dX2_init_59 rfl ?_
    refine lv_aload_n hx hb dX2_init_60 rfl (lv_at hl 0 rfl) ?_
    refine va_get (D := (dC, dI)) (ci := 2) (v := .int 1) (C := RX2) (T := TX2) (N := 8) hx hb hts inGX2 hown hK hP 0 rfl rfl 1 (by decide) (hts _ wd99) (fun _ h9 => h9) rfl dX2_init_61 ?_
    have hPc := hP.sub (ws' := [(q56, .inr (0, [.int 0, .null, .int 0]))]) [1] rfl
    have hKc := hK.sub (tys' := []) [] rfl
    have hDc := hD.sub (ws' := [(q56, .inr (0, [.int 0, .null, .int 0]))]) [1] (by decide) rfl
    have hFc := va_free (wc := [(q56, .inr (0, [.int 0, .null, .int 0]))]) hD hS hA [1] rfl
    refine va_callv (va_runI (As := [.int 1]) (rest := [.ref q56, .ref ox]) ⟨hx, hb, hml, hown, hts⟩ (mX0_init l dC dI q56 H.size 1 rfl rfl) (cwI 1 hts (g_goodIn wd57) rfl rfl rfl (hts _ wd28) (hts _ wd55) (hts _ wd56) rfl (by decide +kernel) ⟨Nat.le_of_ble_eq_true rfl, Nat.le_of_ble_eq_true rfl⟩) ⟨fb_rw, pre_rw hPc hKc hDc hZ⟩ rfl rfl hl.1 rfl (lv_room (Nat.le_of_ble_eq_true rfl)) dX2_init_64 ⟨Nat.le_of_ble_eq_true rfl, Nat.le_of_ble_eq_true rfl⟩) hS (fun q _ h => hFc q h) hFc (fun u_20 t H1 locs ht hvm hw_19 hB hz1 hk1 hS => ?_)
    obtain ⟨oa_64, cI_64, hP1, hK1, hD1⟩ := hB
    rw [ht] at hP1
    obtain ⟨hP, hD⟩ := va_join (wr := [(ox, .inr (2, [.int x_2, .int 1, .int 1, .null, .null, .null, .null, .int 0]))]) (w1 := [(q56, .inr (0, [.int 1, .ref oa_64, .int u_20.2])), (oa_64, .inl (cI_64, 600, .inl u_20.1))]) hP hD [1] [0] rfl rfl (by decide) (by decide) hk1 hFc hP1 hD1
    generalize H1 = H at hP hS ⊢
    have hP : va_P (dC, dI) vwCl [(ox, .inr (2, [.int x_2, .int 1, .int 1, .null, .null, .null, .null, .int 0])), (q56, .inr (0, [.int 1, .ref oa_64, .int u_20.2])), (oa_64, .inl (cI_64, 600, .inl u_20.1))] H := hP
    have hD : va_D A [(ox, .inr (2, [.int x_2, .int 1, .int 1, .null, .null, .null, .null, .int 0])), (q56, .inr (0, [.int 1, .ref oa_64, .int u_20.2])), (oa_64, .inl (cI_64, 600, .inl u_20.1))] := hD
    have hK := hK.app (va_K.moved hvm.symm (hK1.sub (tys' := [(cI_64, .int)]) [0] rfl))
    have hK : va_K (dC, dI) vwCl [(cI_64, .int)] s := hK
    refine W.widen (k := 2) (n := 603) (by omega) (by omega) ?_
    refine va_putF (D := (dC, dI)) (ci := 2) (v := .ref q56) (ty := .object "BitRows$Row") (C := RX2) (T := TX2) (N := 8) hx hb hts inGX2 tyX2 tyX2_ok nmX2 hown hK hP hD hS 0 rfl rfl 3 (by decide) (hts _ wd101) (fun _ h9 => h9) rfl hin rfl (by decide +kernel) rfl rfl (Nat.le_of_ble_eq_true rfl) dX2_init_67 (fun H locs hP hD hS => ?_)
    have hP : va_P (dC, dI) vwCl [(ox, .inr (2, [.int x_2, .int 1, .int 1, .ref q56, .null, .null, .null, .int 0])), (q56, .inr (0, [.int 1, .ref oa_64, .int u_20.2])), (oa_64, .inl (cI_64, 600, .inl u_20.1))] H := hP
    have hD : va_D A [(ox, .inr (2, [.int x_2, .int 1, .int 1, .ref q56, .null, .null, .null, .int 0])), (q56, .inr (0, [.int 1, .ref oa_64, .int u_20.2])), (oa_64, .inl (cI_64, 600, .inl u_20.1))] := hD
    refine lv_aload_n hx hb dX2_init_70 rfl (lv_at hl 0 rfl) ?_
    refine va_new (ci := 1) (fs := [.null, .int 0, .int 0, .int 0, .int 0, .int 0, .int 0]) (C := RX1) (T := TX1) (N := 7) hx hb hts inGX1 tyX1 tyX1_ok hown (hts _ wd70) (hts _ wd71) (hts _ wd29) hK hP hD hS hA rfl (fun j hj => by rcases (show j = 0 ∨ j = 1 ∨ j = 2 ∨ j = 3 ∨ j = 4 ∨ j = 5 ∨ j = 6 by omega) with rfl | rfl | rfl | rfl | rfl | rfl | rfl <;> rfl) (Nat.le_of_ble_eq_true rfl) (Nat.le_of_ble_eq_true rfl) dX2_init_71 (fun q71 H hP hD hS => ?_)
    have hP : va_P (dC, dI) vwCl [(ox, .inr (2, [.int x_2, .int 1, .int 1, .ref q56, .null, .null, .null, .int 0])), (q56, .inr (0, [.int 1, .ref oa_64, .int u_20.2])), (oa_64, .inl (cI_64, 600, .inl u_20.1)), (q71, .inr (1, [.null, .int 0, .int 0, .int 0, .int 0, .int 0, .int 0]))] H := hP
    have hD : va_D A [(ox, .inr (2, [.int x_2, .int 1, .int 1, .ref q56, .null, .null, .null, .int 0])), (q56, .inr (0, [.int 1, .ref oa_64, .int u_20.2])), (oa_64, .inl (cI_64, 600, .inl u_20.1)), (q71, .inr (1, [.null, .int 0, .int 0, .int 0, .int 0, .int 0, .int 0]))] := hD
    refine W.widen (k := 3) (n := 610) (by omega) (by omega) ?_
    refine lv_dup hx hb dX2_init_74 rfl ?_
    refine lv_aload_n hx hb dX2_init_75 rfl (lv_at hl 0 rfl) ?_
    refine va_get (D := (dC, dI)) (ci := 2) (v := .ref q56) (C := RX2) (T := TX2) (N := 8) hx hb hts inGX2 hown hK hP 0 rfl rfl 3 (by decide) (hts _ wd101) (fun _ h9 => h9) rfl dX2_init_76 ?_
    refine lv_aload_n hx hb dX2_init_79 rfl (lv_at hl 0 rfl) ?_
    refine va_get (D := (dC, dI)) (ci := 2) (v := .int x_2) (C := RX2) (T := TX2) (N := 8) hx hb hts inGX2 hown hK hP 0 rfl rfl 0 (by decide) (hts _ wd98) (fun _ h9 => h9) rfl dX2_init_80 ?_
    refine lv_aload_n hx hb dX2_init_83 rfl (lv_at hl 0 rfl) ?_
    refine va_get (D := (dC, dI)) (ci := 2) (v := .int 1) (C := RX2) (T := TX2) (N := 8) hx hb hts inGX2 hown hK hP 0 rfl rfl 1 (by decide) (hts _ wd99) (fun _ h9 => h9) rfl dX2_init_84 ?_
    have hPc := hP.sub (ws' := [(q71, .inr (1, [.null, .int 0, .int 0, .int 0, .int 0, .int 0, .int 0]))]) [3] rfl
    have hKc := hK.sub (tys' := []) [] rfl
    have hDc := hD.sub (ws' := [(q71, .inr (1, [.null, .int 0, .int 0, .int 0, .int 0, .int 0, .int 0]))]) [3] (by decide) rfl
    have hFc := va_free (wc := [(q71, .inr (1, [.null, .int 0, .int 0, .int 0, .int 0, .int 0, .int 0]))]) hD hS hA [3] rfl
    refine va_callv (va_runI (As := [.ref q56, .int x_2, .int 1]) (rest := [.ref q71, .ref ox]) ⟨hx, hb, hml, hown, hts⟩ (mX1_init l dC dI q71 H.size q56 x_2 1) (cwI 3 hts (g_goodIn wd74) rfl rfl rfl (hts _ wd29) (hts _ wd72) (hts _ wd73) rfl (by decide +kernel) ⟨Nat.le_of_ble_eq_true rfl, Nat.le_of_ble_eq_true rfl⟩) ⟨fb_rw, pre_rw hPc hKc hDc hZ⟩ rfl rfl hl.1 rfl (lv_room (Nat.le_of_ble_eq_true rfl)) dX2_init_87 ⟨Nat.le_of_ble_eq_true rfl, Nat.le_of_ble_eq_true rfl⟩) hS (fun q _ h => hFc q h) hFc (fun u_22 t H1 locs ht hvm hw_21 hB hz1 hk1 hS => ?_)
    obtain ⟨u_22ts, u_22sb⟩ := u_22
    obtain ⟨hP1, hK1, hD1⟩ := hB
    rw [ht] at hP1
    obtain ⟨hP, hD⟩ := va_join (wr := [(ox, .inr (2, [.int x_2, .int 1, .int 1, .ref q56, .null, .null, .null, .int 0])), (q56, .inr (0, [.int 1, .ref oa_64, .int u_20.2])), (oa_64, .inl (cI_64, 600, .inl u_20.1))]) (w1 := [(q71, .inr (1, [.ref q56, .int x_2, .int u_22sb, .int u_22ts.1, .int u_22ts.2.1, .int u_22ts.2.2.1, .int u_22ts.2.2.2]))]) hP hD [3] [0, 1, 2] rfl rfl (by decide) (by decide) hk1 hFc hP1 hD1
    generalize H1 = H at hP hS ⊢
    have hP : va_P (dC, dI) vwCl [(ox, .inr (2, [.int x_2, .int 1, .int 1, .ref q56, .null, .null, .null, .int 0])), (q56, .inr (0, [.int 1, .ref oa_64, .int u_20.2])), (oa_64, .inl (cI_64, 600, .inl u_20.1)), (q71, .inr (1, [.ref q56, .int x_2, .int u_22sb, .int u_22ts.1, .int u_22ts.2.1, .int u_22ts.2.2.1, .int u_22ts.2.2.2]))] H := hP
    have hD : va_D A [(ox, .inr (2, [.int x_2, .int 1, .int 1, .ref q56, .null, .null, .null, .int 0])), (q56, .inr (0, [.int 1, .ref oa_64, .int u_20.2])), (oa_64, .inl (cI_64, 600, .inl u_20.1)), (q71, .inr (1, [.ref q56, .int x_2, .int u_22sb, .int u_22ts.1, .int u_22ts.2.1, .int u_22ts.2.2.1, .int u_22ts.2.2.2]))] := hD
    refine va_putF (D := (dC, dI)) (ci := 2) (v := .ref q71) (ty := .object "BitRows$Track") (C := RX2) (T := TX2) (N := 8) hx hb hts inGX2 tyX2 tyX2_ok nmX2 hown hK hP hD hS 0 rfl rfl 4 (by decide) (hts _ wd102) (fun _ h9 => h9) rfl hin rfl (by decide +kernel) rfl rfl (Nat.le_of_ble_eq_true rfl) dX2_init_90 (fun H locs hP hD hS => ?_)
    have hP : va_P (dC, dI) vwCl [(ox, .inr (2, [.int x_2, .int 1, .int 1, .ref q56, .ref q71, .null, .null, .int 0])), (q56, .inr (0, [.int 1, .ref oa_64, .int u_20.2])), (oa_64, .inl (cI_64, 600, .inl u_20.1)), (q71, .inr (1, [.ref q56, .int x_2, .int u_22sb, .int u_22ts.1, .int u_22ts.2.1, .int u_22ts.2.2.1, .int u_22ts.2.2.2]))] H := hP
    have hD : va_D A [(ox, .inr (2, [.int x_2, .int 1, .int 1, .ref q56, .ref q71, .null, .null, .int 0])), (q56, .inr (0, [.int 1, .ref oa_64, .int u_20.2])), (oa_64, .inl (cI_64, 600, .inl u_20.1)), (q71, .inr (1, [.ref q56, .int x_2, .int u_22sb, .int u_22ts.1, .int u_22ts.2.1, .int u_22ts.2.2.1, .int u_22ts.2.2.2]))] := hD
    refine lv_aload_n hx hb dX2_init_93 rfl (lv_at hl 0 rfl) ?_
    refine va_new (ci := 0) (fs := [.int 0, .null, .int 0]) (C := RX0) (T := TX0) (N := 3) hx hb hts inGX0 tyX0 tyX0_ok hown (hts _ wd53) (hts _ wd54) (hts _ wd28) hK hP hD hS hA rfl (fun j hj => by rcases (show j = 0 ∨ j = 1 ∨ j = 2 by omega) with rfl | rfl | rfl <;> rfl) (Nat.le_of_ble_eq_true rfl) (Nat.le_of_ble_eq_true rfl) dX2_init_94 (fun q94 H hP hD hS => ?_)
    have hP : va_P (dC, dI) vwCl [(ox, .inr (2, [.int x_2, .int 1, .int 1, .ref q56, .ref q71, .null, .null, .int 0])), (q56, .inr (0, [.int 1, .ref oa_64, .int u_20.2])), (oa_64, .inl (cI_64, 600, .inl u_20.1)), (q71, .inr (1, [.ref q56, .int x_2, .int u_22sb, .int u_22ts.1, .int u_22ts.2.1, .int u_22ts.2.2.1, .int u_22ts.2.2.2])), (q94, .inr (0, [.int 0, .null, .int 0]))] H := hP
    have hD : va_D A [(ox, .inr (2, [.int x_2, .int 1, .int 1, .ref q56, .ref q71, .null, .null, .int 0])), (q56, .inr (0, [.int 1, .ref oa_64, .int u_20.2])), (oa_64, .inl (cI_64, 600, .inl u_20.1)), (q71, .inr (1, [.ref q56, .int x_2, .int u_22sb, .int u_22ts.1, .int u_22ts.2.1, .int u_22ts.2.2.1, .int u_22ts.2.2.2])), (q94, .inr (0, [.int 0, .null, .int 0]))] := hD
    refine W.widen (k := 4) (n := 613) (by omega) (by omega) ?_
    refine lv_dup hx hb dX2_init_97 rfl ?_
    refine lv_aload_n hx hb dX2_init_98 rfl (lv_at hl 0 rfl) ?_
    refine va_get (D := (dC, dI)) (ci := 2) (v := .int 1) (C := RX2) (T := TX2) (N := 8) hx hb hts inGX2 hown hK hP 0 rfl rfl 1 (by decide) (hts _ wd99) (fun _ h9 => h9) rfl dX2_init_99 ?_
    have hPc := hP.sub (ws' := [(q94, .inr (0, [.int 0, .null, .int 0]))]) [4] rfl
    have hKc := hK.sub (tys' := []) [] rfl
    have hDc := hD.sub (ws' := [(q94, .inr (0, [.int 0, .null, .int 0]))]) [4] (by decide) rfl
    have hFc := va_free (wc := [(q94, .inr (0, [.int 0, .null, .int 0]))]) hD hS hA [4] rfl
    refine va_callv (va_runI (As := [.int 1]) (rest := [.ref q94, .ref ox]) ⟨hx, hb, hml, hown, hts⟩ (mX0_init l dC dI q94 H.size 1 rfl rfl) (cwI 1 hts (g_goodIn wd57) rfl rfl rfl (hts _ wd28) (hts _ wd55) (hts _ wd56) rfl (by decide +kernel) ⟨Nat.le_of_ble_eq_true rfl, Nat.le_of_ble_eq_true rfl⟩) ⟨fb_rw, pre_rw hPc hKc hDc hZ⟩ rfl rfl hl.1 rfl (lv_room (Nat.le_of_ble_eq_true rfl)) dX2_init_102 ⟨Nat.le_of_ble_eq_true rfl, Nat.le_of_ble_eq_true rfl⟩) hS (fun q _ h => hFc q h) hFc (fun u_24 t H1 locs ht hvm hw_23 hB hz1 hk1 hS => ?_)
    obtain ⟨oa_102, cI_102, hP1, hK1, hD1⟩ := hB
    rw [ht] at hP1
    obtain ⟨hP, hD⟩ := va_join (wr := [(ox, .inr (2, [.int x_2, .int 1, .int 1, .ref q56, .ref q71, .null, .null, .int 0])), (q56, .inr (0, [.int 1, .ref oa_64, .int u_20.2])), (oa_64, .inl (cI_64, 600, .inl u_20.1)), (q71, .inr (1, [.ref q56, .int x_2, .int u_22sb, .int u_22ts.1, .int u_22ts.2.1, .int u_22ts.2.2.1, .int u_22ts.2.2.2]))]) (w1 := [(q94, .inr (0, [.int 1, .ref oa_102, .int u_24.2])), (oa_102, .inl (cI_102, 600, .inl u_24.1))]) hP hD [4] [0, 1, 2, 3] rfl rfl (by decide) (by decide) hk1 hFc hP1 hD1
    generalize H1 = H at hP hS ⊢
    have hP : va_P (dC, dI) vwCl [(ox, .inr (2, [.int x_2, .int 1, .int 1, .ref q56, .ref q71, .null, .null, .int 0])), (q56, .inr (0, [.int 1, .ref oa_64, .int u_20.2])), (oa_64, .inl (cI_64, 600, .inl u_20.1)), (q71, .inr (1, [.ref q56, .int x_2, .int u_22sb, .int u_22ts.1, .int u_22ts.2.1, .int u_22ts.2.2.1, .int u_22ts.2.2.2])), (q94, .inr (0, [.int 1, .ref oa_102, .int u_24.2])), (oa_102, .inl (cI_102, 600, .inl u_24.1))] H := hP
    have hD : va_D A [(ox, .inr (2, [.int x_2, .int 1, .int 1, .ref q56, .ref q71, .null, .null, .int 0])), (q56, .inr (0, [.int 1, .ref oa_64, .int u_20.2])), (oa_64, .inl (cI_64, 600, .inl u_20.1)), (q71, .inr (1, [.ref q56, .int x_2, .int u_22sb, .int u_22ts.1, .int u_22ts.2.1, .int u_22ts.2.2.1, .int u_22ts.2.2.2])), (q94, .inr (0, [.int 1, .ref oa_102, .int u_24.2])), (oa_102, .inl (cI_102, 600, .inl u_24.1))] := hD
    have hK := hK.app (va_K.moved hvm.symm (hK1.sub (tys' := [(cI_102, .int)]) [0] rfl))
    have hK : va_K (dC, dI) vwCl [(cI_64, .int), (cI_102, .int)] s := hK
    refine W.widen (k := 5) (n := 1213) (by omega) (by omega) ?_
    refine va_putF (D := (dC, dI)) (ci := 2) (v := .ref q94) (ty := .object "BitRows$Row") (C := RX2) (T := TX2) (N := 8) hx hb hts inGX2 tyX2 tyX2_ok nmX2 hown hK hP hD hS 0 rfl rfl 5 (by decide) (hts _ wd103) (fun _ h9 => h9) rfl hin rfl (by decide +kernel) rfl rfl (Nat.le_of_ble_eq_true rfl) dX2_init_105 (fun H locs hP hD hS => ?_)
    have hP : va_P (dC, dI) vwCl [(ox, .inr (2, [.int x_2, .int 1, .int 1, .ref q56, .ref q71, .ref q94, .null, .int 0])), (q56, .inr (0, [.int 1, .ref oa_64, .int u_20.2])), (oa_64, .inl (cI_64, 600, .inl u_20.1)), (q71, .inr (1, [.ref q56, .int x_2, .int u_22sb, .int u_22ts.1, .int u_22ts.2.1, .int u_22ts.2.2.1, .int u_22ts.2.2.2])), (q94, .inr (0, [.int 1, .ref oa_102, .int u_24.2])), (oa_102, .inl (cI_102, 600, .inl u_24.1))] H := hP
    have hD : va_D A [(ox, .inr (2, [.int x_2, .int 1, .int 1, .ref q56, .ref q71, .ref q94, .null, .int 0])), (q56, .inr (0, [.int 1, .ref oa_64, .int u_20.2])), (oa_64, .inl (cI_64, 600, .inl u_20.1)), (q71, .inr (1, [.ref q56, .int x_2, .int u_22sb, .int u_22ts.1, .int u_22ts.2.1, .int u_22ts.2.2.1, .int u_22ts.2.2.2])), (q94, .inr (0, [.int 1, .ref oa_102, .int u_24.2])), (oa_102, .inl (cI_102, 600, .inl u_24.1))] := hD
    refine lv_aload_n hx hb dX2_init_108 rfl (lv_at hl 0 rfl) ?_
    refine va_new (ci := 1) (fs := [.null, .int 0, .int 0, .int 0, .int 0, .int 0, .int 0]) (C := RX1) (T := TX1) (N := 7) hx hb hts inGX1 tyX1 tyX1_ok hown (hts _ wd70) (hts _ wd71) (hts _ wd29) hK hP hD hS hA rfl (fun j hj => by rcases (show j = 0 ∨ j = 1 ∨ j = 2 ∨ j = 3 ∨ j = 4 ∨ j = 5 ∨ j = 6 by omega) with rfl | rfl | rfl | rfl | rfl | rfl | rfl <;> rfl) (Nat.le_of_ble_eq_true rfl) (Nat.le_of_ble_eq_true rfl) dX2_init_109 (fun q109 H hP hD hS => ?_)
    have hP : va_P (dC, dI) vwCl [(ox, .inr (2, [.int x_2, .int 1, .int 1, .ref q56, .ref q71, .ref q94, .null, .int 0])), (q56, .inr (0, [.int 1, .ref oa_64, .int u_20.2])), (oa_64, .inl (cI_64, 600, .inl u_20.1)), (q71, .inr (1, [.ref q56, .int x_2, .int u_22sb, .int u_22ts.1, .int u_22ts.2.1, .int u_22ts.2.2.1, .int u_22ts.2.2.2])), (q94, .inr (0, [.int 1, .ref oa_102, .int u_24.2])), (oa_102, .inl (cI_102, 600, .inl u_24.1)), (q109, .inr (1, [.null, .int 0, .int 0, .int 0, .int 0, .int 0, .int 0]))] H := hP
    have hD : va_D A [(ox, .inr (2, [.int x_2, .int 1, .int 1, .ref q56, .ref q71, .ref q94, .null, .int 0])), (q56, .inr (0, [.int 1, .ref oa_64, .int u_20.2])), (oa_64, .inl (cI_64, 600, .inl u_20.1)), (q71, .inr (1, [.ref q56, .int x_2, .int u_22sb, .int u_22ts.1, .int u_22ts.2.1, .int u_22ts.2.2.1, .int u_22ts.2.2.2])), (q94, .inr (0, [.int 1, .ref oa_102, .int u_24.2])), (oa_102, .inl (cI_102, 600, .inl u_24.1)), (q109, .inr (1, [.null, .int 0, .int 0, .int 0, .int 0, .int 0, .int 0]))] := hD
    refine W.widen (k := 6) (n := 1220) (by omega) (by omega) ?_
    refine lv_dup hx hb dX2_init_112 rfl ?_
    refine lv_aload_n hx hb dX2_init_113 rfl (lv_at hl 0 rfl) ?_
    refine va_get (D := (dC, dI)) (ci := 2) (v := .ref q94) (C := RX2) (T := TX2) (N := 8) hx hb hts inGX2 hown hK hP 0 rfl rfl 5 (by decide) (hts _ wd103) (fun _ h9 => h9) rfl dX2_init_114 ?_
    refine lv_aload_n hx hb dX2_init_117 rfl (lv_at hl 0 rfl) ?_
    refine va_get (D := (dC, dI)) (ci := 2) (v := .int x_2) (C := RX2) (T := TX2) (N := 8) hx hb hts inGX2 hown hK hP 0 rfl rfl 0 (by decide) (hts _ wd98) (fun _ h9 => h9) rfl dX2_init_118 ?_
    refine lv_aload_n hx hb dX2_init_121 rfl (lv_at hl 0 rfl) ?_
    refine va_get (D := (dC, dI)) (ci := 2) (v := .int 1) (C := RX2) (T := TX2) (N := 8) hx hb hts inGX2 hown hK hP 0 rfl rfl 1 (by decide) (hts _ wd99) (fun _ h9 => h9) rfl dX2_init_122 ?_
    have hPc := hP.sub (ws' := [(q109, .inr (1, [.null, .int 0, .int 0, .int 0, .int 0, .int 0, .int 0]))]) [6] rfl
    have hKc := hK.sub (tys' := []) [] rfl
    have hDc := hD.sub (ws' := [(q109, .inr (1, [.null, .int 0, .int 0, .int 0, .int 0, .int 0, .int 0]))]) [6] (by decide) rfl
    have hFc := va_free (wc := [(q109, .inr (1, [.null, .int 0, .int 0, .int 0, .int 0, .int 0, .int 0]))]) hD hS hA [6] rfl
    refine va_callv (va_runI (As := [.ref q94, .int x_2, .int 1]) (rest := [.ref q109, .ref ox]) ⟨hx, hb, hml, hown, hts⟩ (mX1_init l dC dI q109 H.size q94 x_2 1) (cwI 3 hts (g_goodIn wd74) rfl rfl rfl (hts _ wd29) (hts _ wd72) (hts _ wd73) rfl (by decide +kernel) ⟨Nat.le_of_ble_eq_true rfl, Nat.le_of_ble_eq_true rfl⟩) ⟨fb_rw, pre_rw hPc hKc hDc hZ⟩ rfl rfl hl.1 rfl (lv_room (Nat.le_of_ble_eq_true rfl)) dX2_init_125 ⟨Nat.le_of_ble_eq_true rfl, Nat.le_of_ble_eq_true rfl⟩) hS (fun q _ h => hFc q h) hFc (fun u_26 t H1 locs ht hvm hw_25 hB hz1 hk1 hS => ?_)
    obtain ⟨u_26ts, u_26sb⟩ := u_26
    obtain ⟨hP1, hK1, hD1⟩ := hB
    rw [ht] at hP1
    obtain ⟨hP, hD⟩ := va_join (wr := [(ox, .inr (2, [.int x_2, .int 1, .int 1, .ref q56, .ref q71, .ref q94, .null, .int 0])), (q56, .inr (0, [.int 1, .ref oa_64, .int u_20.2])), (oa_64, .inl (cI_64, 600, .inl u_20.1)), (q71, .inr (1, [.ref q56, .int x_2, .int u_22sb, .int u_22ts.1, .int u_22ts.2.1, .int u_22ts.2.2.1, .int u_22ts.2.2.2])), (q94, .inr (0, [.int 1, .ref oa_102, .int u_24.2])), (oa_102, .inl (cI_102, 600, .inl u_24.1))]) (w1 := [(q109, .inr (1, [.ref q94, .int x_2, .int u_26sb, .int u_26ts.1, .int u_26ts.2.1, .int u_26ts.2.2.1, .int u_26ts.2.2.2]))]) hP hD [6] [0, 1, 2, 3, 4, 5] rfl rfl (by decide) (by decide) hk1 hFc hP1 hD1
    generalize H1 = H at hP hS ⊢
    have hP : va_P (dC, dI) vwCl [(ox, .inr (2, [.int x_2, .int 1, .int 1, .ref q56, .ref q71, .ref q94, .null, .int 0])), (q56, .inr (0, [.int 1, .ref oa_64, .int u_20.2])), (oa_64, .inl (cI_64, 600, .inl u_20.1)), (q71, .inr (1, [.ref q56, .int x_2, .int u_22sb, .int u_22ts.1, .int u_22ts.2.1, .int u_22ts.2.2.1, .int u_22ts.2.2.2])), (q94, .inr (0, [.int 1, .ref oa_102, .int u_24.2])), (oa_102, .inl (cI_102, 600, .inl u_24.1)), (q109, .inr (1, [.ref q94, .int x_2, .int u_26sb, .int u_26ts.1, .int u_26ts.2.1, .int u_26ts.2.2.1, .int u_26ts.2.2.2]))] H := hP
    have hD : va_D A [(ox, .inr (2, [.int x_2, .int 1, .int 1, .ref q56, .ref q71, .ref q94, .null, .int 0])), (q56, .inr (0, [.int 1, .ref oa_64, .int u_20.2])), (oa_64, .inl (cI_64, 600, .inl u_20.1)), (q71, .inr (1, [.ref q56, .int x_2, .int u_22sb, .int u_22ts.1, .int u_22ts.2.1, .int u_22ts.2.2.1, .int u_22ts.2.2.2])), (q94, .inr (0, [.int 1, .ref oa_102, .int u_24.2])), (oa_102, .inl (cI_102, 600, .inl u_24.1)), (q109, .inr (1, [.ref q94, .int x_2, .int u_26sb, .int u_26ts.1, .int u_26ts.2.1, .int u_26ts.2.2.1, .int u_26ts.2.2.2]))] := hD
    refine va_putF (D := (dC, dI)) (ci := 2) (v := .ref q109) (ty := .object "BitRows$Track") (C := RX2) (T := TX2) (N := 8) hx hb hts inGX2 tyX2 tyX2_ok nmX2 hown hK hP hD hS 0 rfl rfl 6 (by decide) (hts _ wd104) (fun _ h9 => h9) rfl hin rfl (by decide +kernel) rfl rfl (Nat.le_of_ble_eq_true rfl) dX2_init_128 (fun H locs hP hD hS => ?_)
    have hP : va_P (dC, dI) vwCl [(ox, .inr (2, [.int x_2, .int 1, .int 1, .ref q56, .ref q71, .ref q94, .ref q109, .int 0])), (q56, .inr (0, [.int 1, .ref oa_64, .int u_20.2])), (oa_64, .inl (cI_64, 600, .inl u_20.1)), (q71, .inr (1, [.ref q56, .int x_2, .int u_22sb, .int u_22ts.1, .int u_22ts.2.1, .int u_22ts.2.2.1, .int u_22ts.2.2.2])), (q94, .inr (0, [.int 1, .ref oa_102, .int u_24.2])), (oa_102, .inl (cI_102, 600, .inl u_24.1)), (q109, .inr (1, [.ref q94, .int x_2, .int u_26sb, .int u_26ts.1, .int u_26ts.2.1, .int u_26ts.2.2.1, .int u_26ts.2.2.2]))] H := hP
    have hD : va_D A [(ox, .inr (2, [.int x_2, .int 1, .int 1, .ref q56, .ref q71, .ref q94, .ref q109, .int 0])), (q56, .inr (0, [.int 1, .ref oa_64, .int u_20.2])), (oa_64, .inl (cI_64, 600, .inl u_20.1)), (q71, .inr (1, [.ref q56, .int x_2, .int u_22sb, .int u_22ts.1, .int u_22ts.2.1, .int u_22ts.2.2.1, .int u_22ts.2.2.2])), (q94, .inr (0, [.int 1, .ref oa_102, .int u_24.2])), (oa_102, .inl (cI_102, 600, .inl u_24.1)), (q109, .inr (1, [.ref q94, .int x_2, .int u_26sb, .int u_26ts.1, .int u_26ts.2.1, .int u_26ts.2.2.1, .int u_26ts.2.2.2]))] := hD
    refine lv_aload_n hx hb dX2_init_131 rfl (lv_at hl 0 rfl) ?_
    refine lv_iconst (v := 0) hx hb dX2_init_132 (by decide) ?_
    refine va_put (D := (dC, dI)) (ci := 2) (v := .int 0) (ty := .boolean) (C := RX2) (T := TX2) (N := 8) hx hb hts inGX2 tyX2 tyX2_ok nmX2 hown hK hP hD hS 0 rfl rfl 7 (by decide) (hts _ wd105) (fun _ h9 => h9) rfl (by decide +kernel) rfl rfl (Nat.le_of_ble_eq_true rfl) dX2_init_133 (fun H locs hP hD hS => ?_)
    have hP : va_P (dC, dI) vwCl [(ox, .inr (2, [.int x_2, .int 1, .int 1, .ref q56, .ref q71, .ref q94, .ref q109, .int 0])), (q56, .inr (0, [.int 1, .ref oa_64, .int u_20.2])), (oa_64, .inl (cI_64, 600, .inl u_20.1)), (q71, .inr (1, [.ref q56, .int x_2, .int u_22sb, .int u_22ts.1, .int u_22ts.2.1, .int u_22ts.2.2.1, .int u_22ts.2.2.2])), (q94, .inr (0, [.int 1, .ref oa_102, .int u_24.2])), (oa_102, .inl (cI_102, 600, .inl u_24.1)), (q109, .inr (1, [.ref q94, .int x_2, .int u_26sb, .int u_26ts.1, .int u_26ts.2.1, .int u_26ts.2.2.1, .int u_26ts.2.2.2]))] H := hP
    have hD : va_D A [(ox, .inr (2, [.int x_2, .int 1, .int 1, .ref q56, .ref q71, .ref q94, .ref q109, .int 0])), (q56, .inr (0, [.int 1, .ref oa_64, .int u_20.2])), (oa_64, .inl (cI_64, 600, .inl u_20.1)), (q71, .inr (1, [.ref q56, .int x_2, .int u_22sb, .int u_22ts.1, .int u_22ts.2.1, .int u_22ts.2.2.1, .int u_22ts.2.2.2])), (q94, .inr (0, [.int 1, .ref oa_102, .int u_24.2])), (oa_102, .inl (cI_102, 600, .inl u_24.1)), (q109, .inr (1, [.ref q94, .int x_2, .int u_26sb, .int u_26ts.1, .int u_26ts.2.1, .int u_26ts.2.2.1, .int u_26ts.2.2.2]))] := hD
    have hP9 := hP.sub (ws' := [(ox, .inr (2, [.int x_2, .int 1, .int 1, .ref q56, .ref q71, .ref q94, .ref q109, .int 0])), (q56, .inr (0, [.int 1, .ref oa_64, .int u_20.2])), (oa_64, .inl (cI_64, 600, .inl u_20.1)), (q71, .inr (1, [.ref q56, .int x_2, .int u_22sb, .int u_22ts.1, .int u_22ts.2.1, .int u_22ts.2.2.1, .int u_22ts.2.2.2])), (q94, .inr (0, [.int 1, .ref oa_102, .int u_24.2])), (oa_102, .inl (cI_102, 600, .inl u_24.1)), (q109, .inr (1, [.ref q94, .int x_2, .int u_26sb, .int u_26ts.1, .int u_26ts.2.1, .int u_26ts.2.2.1, .int u_26ts.2.2.2]))]) [0, 1, 2, 3, 4, 5, 6] rfl
    have hD9 := hD.sub (ws' := [(ox, .inr (2, [.int x_2, .int 1, .int 1, .ref q56, .ref q71, .ref q94, .ref q109, .int 0])), (q56, .inr (0, [.int 1, .ref oa_64, .int u_20.2])), (oa_64, .inl (cI_64, 600, .inl u_20.1)), (q71, .inr (1, [.ref q56, .int x_2, .int u_22sb, .int u_22ts.1, .int u_22ts.2.1, .int u_22ts.2.2.1, .int u_22ts.2.2.2])), (q94, .inr (0, [.int 1, .ref oa_102, .int u_24.2])), (oa_102, .inl (cI_102, 600, .inl u_24.1)), (q109, .inr (1, [.ref q94, .int x_2, .int u_26sb, .int u_26ts.1, .int u_26ts.2.1, .int u_26ts.2.2.1, .int u_26ts.2.2.2]))]) [0, 1, 2, 3, 4, 5, 6] (by decide) rfl
    have hK9 := hK.sub (tys' := [(cI_64, .int), (cI_102, .int)]) [0, 1] rfl
    refine W.widen (k := 6) (n := 1220) (by omega) (by omega) ?_
    exact W.vret hx hb hr (fun t ht hW => ⟨⟨(x_2, 1, 1, u_22sb, u_26sb, u_20, u_22ts, u_24, u_26ts, 0), rfl, (plX2_init_2 p0 p1 _ ex_1 _ ex_2 c_20 _ hw_19 _ _ hw_21 _ hw_23 _ _ hw_25), q56, oa_64, cI_64, q71, q94, oa_102, cI_102, q109, by rw [ht]; exact hP9, va_K.moved hW.alike hK9, hD9⟩, hS.F ht⟩) hS.2.2 dX2_init_136
