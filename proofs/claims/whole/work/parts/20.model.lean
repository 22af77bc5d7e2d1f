def isB (x : Int32) : Prop := x = 0 ∨ x = 1
theorem isB.nar {x : Int32} (h : isB x) : narrow .boolean (.int x) = .int x := by rcases h with rfl | rfl <;> rfl
theorem isB.fit {x : Int32} (h : isB x) : fits .boolean (.int x) = true := by rcases h with rfl | rfl <;> rfl
theorem i0 : (0 : Int32).toInt = 0 := rfl
theorem i8 : (8 : Int32).toInt = 8 := rfl
theorem tiN {x : Int32} (h : 0 ≤ x.toInt) : ∃ n : Nat, n < 2 ^ 31 ∧ x = nI n ∧ x.toInt = n := by
  have h2 : x.toInt < 2 ^ 31 := Int32.toInt_lt x
  refine ⟨x.toInt.toNat, by omega, ?_, by omega⟩
  apply Int32.toInt_inj.mp
  rw [nI_toInt (by omega)]; omega
theorem div8 {x : Int32} (h : 0 ≤ x.toInt) : (x / 8).toInt = x.toInt / 8 := by
  obtain ⟨n, hn, rfl, e⟩ := tiN h
  rw [e, show (8 : Int32) = nI 8 from rfl, pk_div hn (by decide) (by decide), nI_toInt (by omega)]; omega
theorem rem8 {x : Int32} (h : 0 ≤ x.toInt) : (x - x / 8 * 8).toInt = x.toInt % 8 := by
  obtain ⟨n, hn, rfl, e⟩ := tiN h
  rw [e, show (8 : Int32) = nI 8 from rfl, pk_rem hn (by decide) (by decide), nI_toInt (by omega)]; omega
theorem addI {x y : Int32} {n : Int} (e : x.toInt + y.toInt = n) (h1 : -2147483648 ≤ n) (h2 : n < 2147483648) : (x + y).toInt = n := by
  rw [Int32.toInt_add, e, Int.bmod_eq_of_le] <;> simp <;> omega
theorem subI {x y : Int32} {n : Int} (e : x.toInt - y.toInt = n) (h1 : -2147483648 ≤ n) (h2 : n < 2147483648) : (x - y).toInt = n := by
  rw [Int32.toInt_sub, e, Int.bmod_eq_of_le] <;> simp <;> omega
theorem mulI {x y : Int32} {n : Int} (e : x.toInt * y.toInt = n) (h1 : -2147483648 ≤ n) (h2 : n < 2147483648) : (x * y).toInt = n := by
  rw [Int32.toInt_mul, e, Int.bmod_eq_of_le] <;> simp <;> omega
theorem leI {x y : Int32} : x ≤ y ↔ x.toInt ≤ y.toInt := Int32.le_iff_toInt_le
theorem ltI {x y : Int32} : x < y ↔ x.toInt < y.toInt := Int32.lt_iff_toInt_lt
theorem eqI {x y : Int32} : x = y ↔ x.toInt = y.toInt := Int32.toInt_inj.symm
theorem inI {x : Int32} {n : Nat} (h0 : 0 ≤ x.toInt) (h1 : x.toInt < n) : vp_in x n := vp_in_iff.mpr ⟨h0, h1⟩
/-- a byte's number, as the reference asks it -/
def bOk (w i : Int32) : Prop := 0 ≤ i.toInt ∧ i.toInt ≤ 650 ∧ w.toInt ≤ 5200
theorem bt_in {w i k x : Int32} (h : bOk w i) (h0 : ¬ k < 0) (h8 : ¬ 8 ≤ k) (e : x = 8 * i + k) (hw : ¬ w ≤ x) : vp_in x 5200 := by
  obtain ⟨h1, h2, h3⟩ := h
  rw [ltI, i0] at h0
  rw [leI, i8] at h8
  have e1 : (8 * i).toInt = 8 * i.toInt := mulI rfl (by omega) (by omega)
  have e2 : x.toInt = 8 * i.toInt + k.toInt := by rw [e]; exact addI (by rw [e1]) (by omega) (by omega)
  rw [leI] at hw
  exact inI (by omega) (by omega)
/-- a place of the bytes that came -/
def mOk (cnt b : Int32) : Prop := 0 ≤ b.toInt ∧ b.toInt ≤ 2147480000 ∧ cnt.toInt ≤ 600
theorem j1 : (1 : Int32).toInt = 1 := rfl
theorem jm1 : (-1 : Int32).toInt = -1 := rfl
theorem mk_in1 {cnt b : Int32} (h : mOk cnt b) (c : ¬ cnt ≤ b + 1) : vp_in b 600 := by
  obtain ⟨h1, h2, h3⟩ := h
  have e : (b + 1).toInt = b.toInt + 1 := addI (by rw [j1]) (by omega) (by omega)
  rw [leI] at c
  exact inI h1 (by omega)
theorem mk_in2 {cnt b : Int32} (h : mOk cnt b) (c : ¬ cnt ≤ b + 1) : vp_in (b + 1) 600 := by
  obtain ⟨h1, h2, h3⟩ := h
  have e : (b + 1).toInt = b.toInt + 1 := addI (by rw [j1]) (by omega) (by omega)
  rw [leI] at c
  exact inI (by omega) (by omega)
/-- a measure that falls to below 0 -/
def dfu (n : Nat) (k : Int32) : Prop := 0 < n ∧ k.toInt + 1 < n ∧ k.toInt < 8 ∧ -1 ≤ k.toInt
theorem dfu_step {n : Nat} {k k' : Int32} (h : dfu (n + 1) k) (c : ¬ k < 0) (e : k' = k + (-1)) : dfu n k' := by
  obtain ⟨h1, h2, h3, h4⟩ := h
  rw [ltI, i0] at c
  have e1 : k'.toInt = k.toInt + -1 := by rw [e]; exact addI (by rw [jm1]) (by omega) (by omega)
  unfold dfu; omega
def FX3_thrown (st : Int32) (lo : Int32) (th : Int32) (bm : Bm) (km : Rw) (qm : Tk) (bd : Int32) (ym : Tk) : Int32 :=
  th
set_option maxRecDepth 100000 in
theorem plX3_thrown_0 (st : Int32) (lo : Int32) (th : Int32) (bm : Bm) (km : Rw) (qm : Tk) (bd : Int32) (ym : Tk)  : th = FX3_thrown st lo th bm km qm bd ym := by
  exact rfl
set_option maxHeartbeats 4000000 in
set_option maxRecDepth 100000 in
theorem mX3_thrown (l : Launch) (dC : Nat → ClassId) (dI : Nat → Nat → Nat) (cZ cK : ClassId) (om ob ok : Nat) (st : Int32) (lo : Int32) (th : Int32) (bm : Bm) (km : Rw) (qm : Tk) (bd : Int32) (ym : Tk) : Met l yX3_thrown (Cond.code yX3_thrown cX3_thrown 1 (some .int) :: G) ({ frames := 0, cells := 0, slots := 0, locals := 0 } : Room) (va_Pc [.ref om] (fun U => va_P (dC, dI) vwCl [(om, .inr (3, [.int th, .int st, .int lo, .ref ob, .int bm.2.1, .int bm.2.2.1, .int bm.2.2.2.1, .int bm.2.2.2.2, .ref ok, .int km.2, .int qm.1, .int qm.2.1, .int qm.2.2.1, .int qm.2.2.2, .int bd, .int ym.1, .int ym.2.1, .int ym.2.2.1, .int ym.2.2.2])), (ob, .inl (cZ, 5200, .inl bm.1)), (ok, .inl (cK, 600, .inl km.1))] U.heap ∧ va_K (dC, dI) vwCl [(cZ, .boolean), (cK, .int)] U ∧ zOk U)) (vp_Si (fun r => r = (FX3_thrown st lo th bm km qm bd ym))) 0 0 (fun _ => False) := by
  refine Met.ofW (cc := cX3_thrown) (maxL := 1) (ret := (some .int)) (by decide) rfl ?_
  intro p e s m args below meth c s₁ B hml hv
  obtain ⟨rfl, hP, hK, hZ⟩ := hv
  have hx := B.exec
  have hb := B.bytes
  have hr := B.returns
  have hts : ∀ w ∈ G, w.before [.ref om].toArray s = true := fun w h => atoms_spec (ws := (Cond.code yX3_thrown cX3_thrown 1 (some .int) :: G)) B.pre w (List.mem_cons_of_mem _ h)
  have hown : s.vm.findClass RX3 = some m.cls := findClass_of_methodNamed B.named
  have hlocks := B.notSynchronized
  have hl := lv_entry ([.ref om]) (n := 1) (Nat.le_of_ble_eq_true rfl)
  rw [lg_entry_eq]
  generalize (lg_sl ([.ref om]) ++ List.replicate (1 - (lg_sl ([.ref om])).length) Slot.unset).toArray = ls at hl ⊢
  have hl : lv_has ls 1 [(0, .ref om)] := hl
  refine lv_aload_n hx hb dX3_thrown_0 rfl (lv_at hl 0 rfl) ?_
  refine va_get (D := (dC, dI)) (ci := 3) (v := .int th) (C := RX3) (T := TX3) (N := 19) hx hb hts inGX3 hown hK hP 0 rfl rfl 0 (by decide) (hts _ wd437) (fun _ h9 => h9) rfl dX3_thrown_1 ?_
  exact W.iret (v := th) hx hb hr (fun t ht hW => ⟨th, rfl, (plX3_thrown_0 st lo th bm km qm bd ym), ht⟩) (fun q h => nomatch h) dX3_thrown_4
def FX3_isIn (p0 : Int64) (p1 : Int64) (p2 : Int64) : Int32 :=
  if (lg_cmp p0 p1) < 0 then
    0
  else
    if 0 < (lg_cmp p0 p2) then
      0
    else
      1
set_option maxRecDepth 100000 in
theorem plX3_isIn_0 (p0 : Int64) (p1 : Int64) (p2 : Int64) (c_3 : (lg_cmp p0 p1) < 0) : 0 = FX3_isIn p0 p1 p2 := by
  exact (if_pos c_3).symm
set_option maxRecDepth 100000 in
theorem plX3_isIn_1 (p0 : Int64) (p1 : Int64) (p2 : Int64) (c_3 : ¬ ((lg_cmp p0 p1) < 0)) (c_10 : 0 < (lg_cmp p0 p2)) : 0 = FX3_isIn p0 p1 p2 := by
  exact ((if_neg c_3).trans (if_pos c_10)).symm
set_option maxRecDepth 100000 in
theorem plX3_isIn_2 (p0 : Int64) (p1 : Int64) (p2 : Int64) (c_3 : ¬ ((lg_cmp p0 p1) < 0)) (c_10 : ¬ (0 < (lg_cmp p0 p2))) : 1 = FX3_isIn p0 p1 p2 := by
  exact ((if_neg c_3).trans (if_neg c_10)).symm
set_option maxHeartbeats 4000000 in
set_option maxRecDepth 100000 in
theorem mX3_isIn (l : Launch) (dC : Nat → ClassId) (dI : Nat → Nat → Nat) (p0 : Int64) (p1 : Int64) (p2 : Int64) : Met l yX3_isIn (Cond.code yX3_isIn cX3_isIn 6 (some .boolean) :: G) ({ frames := 0, cells := 0, slots := 0, locals := 0 } : Room) (va_Pc [.long p0, .long p1, .long p2] zOk) (vp_Si (fun r => r = (FX3_isIn p0 p1 p2))) 0 0 (fun _ => False) := by
  refine Met.ofW (cc := cX3_isIn) (maxL := 6) (ret := (some .boolean)) (by decide) rfl ?_
  intro p e s m args below meth c s₁ B hml hv
  obtain ⟨rfl, hZ⟩ := hv
  have hx := B.exec
  have hb := B.bytes
  have hr := B.returns
  have hts : ∀ w ∈ G, w.before [.long p0, .long p1, .long p2].toArray s = true := fun w h => atoms_spec (ws := (Cond.code yX3_isIn cX3_isIn 6 (some .boolean) :: G)) B.pre w (List.mem_cons_of_mem _ h)
  have hown : s.vm.findClass RX3 = some m.cls := findClass_of_methodNamed B.named
  have hlocks := B.notSynchronized
  have hl := lv_entry ([.long p0, .long p1, .long p2]) (n := 6) (Nat.le_of_ble_eq_true rfl)
  rw [lg_entry_eq]
  generalize (lg_sl ([.long p0, .long p1, .long p2]) ++ List.replicate (6 - (lg_sl ([.long p0, .long p1, .long p2])).length) Slot.unset).toArray = ls at hl ⊢
  have hl : lv_has ls 6 [(0, .long p0), (2, .long p1), (4, .long p2)] := hl
  refine lv_lload_n hx hb dX3_isIn_0 rfl (lv_at hl 0 rfl) ?_
  refine lv_lload_n hx hb dX3_isIn_1 rfl (lv_at hl 1 rfl) ?_
  refine W.lcmp hx hb dX3_isIn_2 ?_
  refine lv_if_lt (tgt := 17) hx hb dX3_isIn_3 (by decide) (fun c_3 => ?_) (fun c_3 => ?_)
  · refine lv_iconst (v := 0) hx hb dX3_isIn_17 (by decide) ?_
    exact W.zret (v := 0) (ty := .boolean) hx hb hr rfl (fun t ht hW => ⟨0, rfl, (plX3_isIn_0 p0 p1 p2 c_3), ht⟩) (fun q h => nomatch h) dX3_isIn_18
  · refine lv_lload_n hx hb dX3_isIn_6 rfl (lv_at hl 0 rfl) ?_
    refine lv_lload hx hb dX3_isIn_7 (lv_at hl 2 rfl) ?_
    refine W.lcmp hx hb dX3_isIn_9 ?_
    refine lv_if_gt (tgt := 17) hx hb dX3_isIn_10 (by decide) (fun c_10 => ?_) (fun c_10 => ?_)
    · refine lv_iconst (v := 0) hx hb dX3_isIn_17 (by decide) ?_
      exact W.zret (v := 0) (ty := .boolean) hx hb hr rfl (fun t ht hW => ⟨0, rfl, (plX3_isIn_1 p0 p1 p2 c_3 c_10), ht⟩) (fun q h => nomatch h) dX3_isIn_18
    · refine lv_iconst (v := 1) hx hb dX3_isIn_13 (by decide) ?_
      refine lv_goto (tgt := 18) hx hb dX3_isIn_14 (by decide) ?_
      exact W.zret (v := 1) (ty := .boolean) hx hb hr rfl (fun t ht hW => ⟨1, rfl, (plX3_isIn_2 p0 p1 p2 c_3 c_10), ht⟩) (fun q h => nomatch h) dX3_isIn_18
def FX3_isFull (st : Int32) (lo : Int32) (th : Int32) (bm : Bm) (km : Rw) (qm : Tk) (bd : Int32) (ym : Tk) (p0 : Int32) : Int32 :=
  if ((bm.2.1 + (2 * p0)) + 16) ≤ 4800 then
    0
  else
    1
set_option maxRecDepth 100000 in
theorem plX3_isFull_0 (st : Int32) (lo : Int32) (th : Int32) (bm : Bm) (km : Rw) (qm : Tk) (bd : Int32) (ym : Tk) (p0 : Int32) (c_14 : ((bm.2.1 + (2 * p0)) + 16) ≤ 4800) : 0 = FX3_isFull st lo th bm km qm bd ym p0 := by
  exact (if_pos c_14).symm
set_option maxRecDepth 100000 in
theorem plX3_isFull_1 (st : Int32) (lo : Int32) (th : Int32) (bm : Bm) (km : Rw) (qm : Tk) (bd : Int32) (ym : Tk) (p0 : Int32) (c_14 : ¬ (((bm.2.1 + (2 * p0)) + 16) ≤ 4800)) : 1 = FX3_isFull st lo th bm km qm bd ym p0 := by
  exact (if_neg c_14).symm
set_option maxHeartbeats 4000000 in
set_option maxRecDepth 100000 in
theorem mX3_isFull (l : Launch) (dC : Nat → ClassId) (dI : Nat → Nat → Nat) (cZ cK : ClassId) (om ob ok : Nat) (st : Int32) (lo : Int32) (th : Int32) (bm : Bm) (km : Rw) (qm : Tk) (bd : Int32) (ym : Tk) (p0 : Int32) : Met l yX3_isFull (Cond.code yX3_isFull cX3_isFull 2 (some .boolean) :: G) ({ frames := 0, cells := 0, slots := 0, locals := 0 } : Room) (va_Pc [.ref om, .int p0] (fun U => va_P (dC, dI) vwCl [(om, .inr (3, [.int th, .int st, .int lo, .ref ob, .int bm.2.1, .int bm.2.2.1, .int bm.2.2.2.1, .int bm.2.2.2.2, .ref ok, .int km.2, .int qm.1, .int qm.2.1, .int qm.2.2.1, .int qm.2.2.2, .int bd, .int ym.1, .int ym.2.1, .int ym.2.2.1, .int ym.2.2.2])), (ob, .inl (cZ, 5200, .inl bm.1)), (ok, .inl (cK, 600, .inl km.1))] U.heap ∧ va_K (dC, dI) vwCl [(cZ, .boolean), (cK, .int)] U ∧ zOk U)) (vp_Si (fun r => r = (FX3_isFull st lo th bm km qm bd ym p0))) 0 0 (fun _ => False) := by
  refine Met.ofW (cc := cX3_isFull) (maxL := 2) (ret := (some .boolean)) (by decide) rfl ?_
  intro p e s m args below meth c s₁ B hml hv
  obtain ⟨rfl, hP, hK, hZ⟩ := hv
  have hx := B.exec
  have hb := B.bytes
  have hr := B.returns
  have hts : ∀ w ∈ G, w.before [.ref om, .int p0].toArray s = true := fun w h => atoms_spec (ws := (Cond.code yX3_isFull cX3_isFull 2 (some .boolean) :: G)) B.pre w (List.mem_cons_of_mem _ h)
  have hown : s.vm.findClass RX3 = some m.cls := findClass_of_methodNamed B.named
  have hlocks := B.notSynchronized
  have hl := lv_entry ([.ref om, .int p0]) (n := 2) (Nat.le_of_ble_eq_true rfl)
  rw [lg_entry_eq]
  generalize (lg_sl ([.ref om, .int p0]) ++ List.replicate (2 - (lg_sl ([.ref om, .int p0])).length) Slot.unset).toArray = ls at hl ⊢
  have hl : lv_has ls 2 [(0, .ref om), (1, .int p0)] := hl
  refine lv_aload_n hx hb dX3_isFull_0 rfl (lv_at hl 0 rfl) ?_
  refine va_get (D := (dC, dI)) (ci := 3) (v := .int bm.2.1) (C := RX3) (T := TX3) (N := 19) hx hb hts inGX3 hown hK hP 0 rfl rfl 4 (by decide) (hts _ wd441) (fun _ h9 => h9) rfl dX3_isFull_1 ?_
  refine lv_iconst (v := 2) hx hb dX3_isFull_4 (by decide) ?_
  refine lv_iload_n hx hb dX3_isFull_5 rfl (lv_at hl 1 rfl) ?_
  refine lv_imul hx hb dX3_isFull_6 ?_
  refine lv_iadd hx hb dX3_isFull_7 ?_
  refine lv_bipush (v := 16) hx hb dX3_isFull_8 (by decide) ?_
  refine lv_iadd hx hb dX3_isFull_10 ?_
  refine lv_sipush (v := 4800) hx hb dX3_isFull_11 (by decide) ?_
  refine lv_icmp_le (tgt := 21) hx hb dX3_isFull_14 (by decide) (fun c_14 => ?_) (fun c_14 => ?_)
  · refine lv_iconst (v := 0) hx hb dX3_isFull_21 (by decide) ?_
    exact W.zret (v := 0) (ty := .boolean) hx hb hr rfl (fun t ht hW => ⟨0, rfl, (plX3_isFull_0 st lo th bm km qm bd ym p0 c_14), ht⟩) (fun q h => nomatch h) dX3_isFull_22
  · refine lv_iconst (v := 1) hx hb dX3_isFull_17 (by decide) ?_
    refine lv_goto (tgt := 22) hx hb dX3_isFull_18 (by decide) ?_
    exact W.zret (v := 1) (ty := .boolean) hx hb hr rfl (fun t ht hW => ⟨1, rfl, (plX3_isFull_1 st lo th bm km qm bd ym p0 c_14), ht⟩) (fun q h => nomatch h) dX3_isFull_22
def LX3_byteOf_4 (st : Int32) (lo : Int32) : Nat → Int32 → Bm → Rw → Tk → Int32 → Tk → Int32 → Int32 → Int32 → Int32
  | 0, th, bm, km, qm, bd, ym, p0, b, k => 0
  | n + 1, th, bm, km, qm, bd, ym, p0, b, k =>
    if 8 ≤ k then
      b
    else
      let x_1 := (8 * p0) + k
      if bm.2.1 ≤ x_1 then
        let i_2 := k + 1
        LX3_byteOf_4 st lo n th bm km qm bd ym p0 b i_2
      else
        if (bm.1 x_1.toNatClampNeg) = 0 then
          let i_3 := k + 1
          LX3_byteOf_4 st lo n th bm km qm bd ym p0 b i_3
        else
          if lo = 0 then
            let x_4 := b ||| (128 >>> (k &&& 31))
            let i_5 := k + 1
            LX3_byteOf_4 st lo n th bm km qm bd ym p0 x_4 i_5
          else
            let x_6 := b ||| (1 <<< (k &&& 31))
            let i_7 := k + 1
            LX3_byteOf_4 st lo n th bm km qm bd ym p0 x_6 i_7
def FX3_byteOf (st : Int32) (lo : Int32) (th : Int32) (bm : Bm) (km : Rw) (qm : Tk) (bd : Int32) (ym : Tk) (p0 : Int32) : Int32 :=
  LX3_byteOf_4 st lo 9 th bm km qm bd ym p0 0 0
set_option maxRecDepth 100000 in
theorem plX3_byteOf_l4_0 (st : Int32) (lo : Int32) (n : Nat) (th : Int32) (bm : Bm) (km : Rw) (qm : Tk) (bd : Int32) (ym : Tk) (p0 : Int32) (b : Int32) (k : Int32) (c_7 : 8 ≤ k) : b = LX3_byteOf_4 st lo (n + 1) th bm km qm bd ym p0 b k := by
  exact (if_pos c_7).symm
set_option maxRecDepth 100000 in
theorem plX3_byteOf_l4_1 (st : Int32) (lo : Int32) (n : Nat) (th : Int32) (bm : Bm) (km : Rw) (qm : Tk) (bd : Int32) (ym : Tk) (p0 : Int32) (b : Int32) (k : Int32) (c_7 : ¬ (8 ≤ k)) (x_1 : Int32) (ex_1 : x_1 = (8 * p0) + k) (c_24 : bm.2.1 ≤ x_1) (i_2 : Int32) (ei_2 : i_2 = k + 1) : LX3_byteOf_4 st lo n th bm km qm bd ym p0 b i_2 = LX3_byteOf_4 st lo (n + 1) th bm km qm bd ym p0 b k := by
  subst ex_1
  subst ei_2
  exact ((if_neg c_7).trans (if_pos c_24)).symm
set_option maxRecDepth 100000 in
theorem plX3_byteOf_l4_2 (st : Int32) (lo : Int32) (n : Nat) (th : Int32) (bm : Bm) (km : Rw) (qm : Tk) (bd : Int32) (ym : Tk) (p0 : Int32) (b : Int32) (k : Int32) (c_7 : ¬ (8 ≤ k)) (x_1 : Int32) (ex_1 : x_1 = (8 * p0) + k) (c_24 : ¬ (bm.2.1 ≤ x_1)) (c_34 : (bm.1 x_1.toNatClampNeg) = 0) (i_3 : Int32) (ei_3 : i_3 = k + 1) : LX3_byteOf_4 st lo n th bm km qm bd ym p0 b i_3 = LX3_byteOf_4 st lo (n + 1) th bm km qm bd ym p0 b k := by
  subst ex_1
  subst ei_3
  exact (((if_neg c_7).trans (if_neg c_24)).trans (if_pos c_34)).symm
set_option maxRecDepth 100000 in
theorem plX3_byteOf_l4_3 (st : Int32) (lo : Int32) (n : Nat) (th : Int32) (bm : Bm) (km : Rw) (qm : Tk) (bd : Int32) (ym : Tk) (p0 : Int32) (b : Int32) (k : Int32) (c_7 : ¬ (8 ≤ k)) (x_1 : Int32) (ex_1 : x_1 = (8 * p0) + k) (c_24 : ¬ (bm.2.1 ≤ x_1)) (c_34 : ¬ ((bm.1 x_1.toNatClampNeg) = 0)) (c_54 : lo = 0) (x_4 : Int32) (ex_4 : x_4 = b ||| (128 >>> (k &&& 31))) (i_5 : Int32) (ei_5 : i_5 = k + 1) : LX3_byteOf_4 st lo n th bm km qm bd ym p0 x_4 i_5 = LX3_byteOf_4 st lo (n + 1) th bm km qm bd ym p0 b k := by
  subst ex_1
  subst ex_4
  subst ei_5
  exact ((((if_neg c_7).trans (if_neg c_24)).trans (if_neg c_34)).trans (if_pos c_54)).symm
set_option maxRecDepth 100000 in
theorem plX3_byteOf_l4_4 (st : Int32) (lo : Int32) (n : Nat) (th : Int32) (bm : Bm) (km : Rw) (qm : Tk) (bd : Int32) (ym : Tk) (p0 : Int32) (b : Int32) (k : Int32) (c_7 : ¬ (8 ≤ k)) (x_1 : Int32) (ex_1 : x_1 = (8 * p0) + k) (c_24 : ¬ (bm.2.1 ≤ x_1)) (c_34 : ¬ ((bm.1 x_1.toNatClampNeg) = 0)) (c_54 : ¬ (lo = 0)) (x_6 : Int32) (ex_6 : x_6 = b ||| (1 <<< (k &&& 31))) (i_7 : Int32) (ei_7 : i_7 = k + 1) : LX3_byteOf_4 st lo n th bm km qm bd ym p0 x_6 i_7 = LX3_byteOf_4 st lo (n + 1) th bm km qm bd ym p0 b k := by
  subst ex_1
  subst ex_6
  subst ei_7
  exact ((((if_neg c_7).trans (if_neg c_24)).trans (if_neg c_34)).trans (if_neg c_54)).symm
set_option maxRecDepth 100000 in
theorem plX3_byteOf_0 (st : Int32) (lo : Int32) (th : Int32) (bm : Bm) (km : Rw) (qm : Tk) (bd : Int32) (ym : Tk) (p0 : Int32)  : LX3_byteOf_4 st lo 9 th bm km qm bd ym p0 0 0 = FX3_byteOf st lo th bm km qm bd ym p0 := by
  exact rfl
set_option maxHeartbeats 4000000 in
set_option maxRecDepth 100000 in
theorem kX3_byteOf_4 {p : Program} {l : Launch} {e : Env} {s : State} {m : MethodId} {args : Array Value} {below : List Frame} {meth : Method} {c : Code} {dC : Nat → ClassId} {dI : Nat → Nat → Nat} {cZ cK : ClassId} {om ob ok : Nat} {st : Int32} {lo : Int32} {z : Int32} (hx : p.tables.exec = Jvm.exec) (hb : c.code = cX3_byteOf) (hr : meth.sig.returnType = (some .int)) (hml : c.maxLocals = 6) (hown : s.vm.findClass RX3 = some m.cls) (hts : ∀ w ∈ G, w.before args s = true) (hlocks : meth.locks = false) (hZ : zOk s) (hK : va_K (dC, dI) vwCl [(cZ, .boolean), (cK, .int)] s) : ∀ (n : Nat) (th : Int32) (bm : Bm) (km : Rw) (qm : Tk) (bd : Int32) (ym : Tk) (p0 : Int32) (b : Int32) (k : Int32), (fuel n k 8) → (¬ k < 0) → (bOk bm.2.1 p0) → LX3_byteOf_4 st lo n th bm km qm bd ym p0 b k = z → va_P (dC, dI) vwCl [(om, .inr (3, [.int th, .int st, .int lo, .ref ob, .int bm.2.1, .int bm.2.2.1, .int bm.2.2.2.1, .int bm.2.2.2.2, .ref ok, .int km.2, .int qm.1, .int qm.2.1, .int qm.2.2.1, .int qm.2.2.2, .int bd, .int ym.1, .int ym.2.1, .int ym.2.2.1, .int ym.2.2.2])), (ob, .inl (cZ, 5200, .inl bm.1)), (ok, .inl (cK, 600, .inl km.1))] s.heap → ∀ (ls : Array Slot), lv_has ls 6 [(0, .ref om), (1, .int p0), (2, .int b), (3, .int k)] → W p l e (headSpec (Cond.code yX3_byteOf cX3_byteOf 6 (some .int) :: G) ({ frames := 0, cells := 0, slots := 0, locals := 0 } : Room)).room s m args below meth c s.heap [] 0 0 (MQ below (vp_Si (fun r => r = z)) args s 0 0 (fun _ => False)) (F0 m 4 ls []) := by
  intro n
  induction n with
  | zero =>
    intro th bm km qm bd ym p0 b k hf h0 hB hz
    exact absurd hf.1 (Nat.lt_irrefl 0)
  | succ n ih =>
    intro th bm km qm bd ym p0 b k hf h0 hB hz hP ls hl
    refine lv_iload_n hx hb dX3_byteOf_4 rfl (lv_at hl 3 rfl) ?_
    refine lv_bipush (v := 8) hx hb dX3_byteOf_5 (by decide) ?_
    refine lv_icmp_ge (tgt := 80) hx hb dX3_byteOf_7 (by decide) (fun c_7 => ?_) (fun c_7 => ?_)
    · refine lv_iload_n hx hb dX3_byteOf_80 rfl (lv_at hl 2 rfl) ?_
      exact W.iret (v := b) hx hb hr (fun t ht hW => ⟨b, rfl, ((plX3_byteOf_l4_0 st lo n th bm km qm bd ym p0 b k c_7).trans hz), ht⟩) (fun q h => nomatch h) dX3_byteOf_81
    · refine lv_bipush (v := 8) hx hb dX3_byteOf_10 (by decide) ?_
      refine lv_iload_n hx hb dX3_byteOf_12 rfl (lv_at hl 1 rfl) ?_
      refine lv_imul hx hb dX3_byteOf_13 ?_
      refine lv_iload_n hx hb dX3_byteOf_14 rfl (lv_at hl 3 rfl) ?_
      refine lv_iadd hx hb dX3_byteOf_15 ?_
      refine lv_topi (fun x_1 ex_1 => ?_)
      refine lv_istore (lv' := [(4, .int x_1), (0, .ref om), (1, .int p0), (2, .int b), (3, .int k)]) hx hb dX3_byteOf_16 hl (by decide) rfl (fun ls hl => ?_)
      refine lv_iload hx hb dX3_byteOf_18 (lv_at hl 0 rfl) ?_
      refine lv_aload_n hx hb dX3_byteOf_20 rfl (lv_at hl 1 rfl) ?_
      refine va_get (D := (dC, dI)) (ci := 3) (v := .int bm.2.1) (C := RX3) (T := TX3) (N := 19) hx hb hts inGX3 hown hK hP 0 rfl rfl 4 (by decide) (hts _ wd441) (fun _ h9 => h9) rfl dX3_byteOf_21 ?_
      refine lv_icmp_ge (tgt := 41) hx hb dX3_byteOf_24 (by decide) (fun c_24 => ?_) (fun c_24 => ?_)
      · refine lv_iconst (v := 0) hx hb dX3_byteOf_41 (by decide) ?_
        refine lv_istore (lv' := [(5, .int 0), (4, .int x_1), (0, .ref om), (1, .int p0), (2, .int b), (3, .int k)]) hx hb dX3_byteOf_42 hl (by decide) rfl (fun ls hl => ?_)
        refine lv_iload hx hb dX3_byteOf_44 (lv_at hl 0 rfl) ?_
        refine lv_if_eq (tgt := 72) hx hb dX3_byteOf_46 (by decide) (fun c_46 => ?_) (fun c_46 => absurd c_46 (by decide))
        refine lv_iload_n hx hb dX3_byteOf_72 rfl (lv_at hl 4 rfl) ?_
        refine lv_istore_n (lv' := [(2, .int b), (5, .int 0), (4, .int x_1), (0, .ref om), (1, .int p0), (3, .int k)]) hx hb dX3_byteOf_73 rfl hl (by decide) rfl (fun ls hl => ?_)
        obtain ⟨i_2, ei_2⟩ : ∃ y : Int32, y = k + 1 := ⟨_, rfl⟩
        refine lv_iinc (v := i_2) (lv' := [(3, .int i_2), (2, .int b), (5, .int 0), (4, .int x_1), (0, .ref om), (1, .int p0)]) hx hb dX3_byteOf_74 hl (k := 5) rfl (by rw [ei_2]; rfl) (by decide) rfl (fun ls hl => ?_)
        refine lv_goto (tgt := 4) hx hb dX3_byteOf_77 (by decide) ?_
        exact ih th bm km qm bd ym p0 b i_2 (fuel_step2 hf (nle_lt c_7) (by assumption)) (nneg2 h0 (nle_lt c_7) (by assumption)) hB ((plX3_byteOf_l4_1 st lo n th bm km qm bd ym p0 b k c_7 _ ex_1 c_24 _ ei_2).trans hz) (hP.sub (ws' := [(om, .inr (3, [.int th, .int st, .int lo, .ref ob, .int bm.2.1, .int bm.2.2.1, .int bm.2.2.2.1, .int bm.2.2.2.2, .ref ok, .int km.2, .int qm.1, .int qm.2.1, .int qm.2.2.1, .int qm.2.2.2, .int bd, .int ym.1, .int ym.2.1, .int ym.2.2.1, .int ym.2.2.2])), (ob, .inl (cZ, 5200, .inl bm.1)), (ok, .inl (cK, 600, .inl km.1))]) [0, 1, 2] rfl) ls (lv_sub hl [4, 5, 1, 0] rfl)
      · refine lv_aload_n hx hb dX3_byteOf_27 rfl (lv_at hl 1 rfl) ?_
        refine va_get (D := (dC, dI)) (ci := 3) (v := .ref ob) (C := RX3) (T := TX3) (N := 19) hx hb hts inGX3 hown hK hP 0 rfl rfl 3 (by decide) (hts _ wd440) (fun _ h9 => h9) rfl dX3_byteOf_28 ?_
        refine lv_iload hx hb dX3_byteOf_31 (lv_at hl 0 rfl) ?_
        refine va_zald hx hb hK hP 1 0 rfl rfl (bt_in hB h0 c_7 (by assumption) c_24) dX3_byteOf_33 ?_
        refine lv_if_eq (tgt := 41) hx hb dX3_byteOf_34 (by decide) (fun c_34 => ?_) (fun c_34 => ?_)
        · refine lv_iconst (v := 0) hx hb dX3_byteOf_41 (by decide) ?_
          refine lv_istore (lv' := [(5, .int 0), (4, .int x_1), (0, .ref om), (1, .int p0), (2, .int b), (3, .int k)]) hx hb dX3_byteOf_42 hl (by decide) rfl (fun ls hl => ?_)
          refine lv_iload hx hb dX3_byteOf_44 (lv_at hl 0 rfl) ?_
          refine lv_if_eq (tgt := 72) hx hb dX3_byteOf_46 (by decide) (fun c_46 => ?_) (fun c_46 => absurd c_46 (by decide))
          refine lv_iload_n hx hb dX3_byteOf_72 rfl (lv_at hl 4 rfl) ?_
          refine lv_istore_n (lv' := [(2, .int b), (5, .int 0), (4, .int x_1), (0, .ref om), (1, .int p0), (3, .int k)]) hx hb dX3_byteOf_73 rfl hl (by decide) rfl (fun ls hl => ?_)
          obtain ⟨i_3, ei_3⟩ : ∃ y : Int32, y = k + 1 := ⟨_, rfl⟩
          refine lv_iinc (v := i_3) (lv' := [(3, .int i_3), (2, .int b), (5, .int 0), (4, .int x_1), (0, .ref om), (1, .int p0)]) hx hb dX3_byteOf_74 hl (k := 5) rfl (by rw [ei_3]; rfl) (by decide) rfl (fun ls hl => ?_)
          refine lv_goto (tgt := 4) hx hb dX3_byteOf_77 (by decide) ?_
          exact ih th bm km qm bd ym p0 b i_3 (fuel_step2 hf (nle_lt c_7) (by assumption)) (nneg2 h0 (nle_lt c_7) (by assumption)) hB ((plX3_byteOf_l4_2 st lo n th bm km qm bd ym p0 b k c_7 _ ex_1 c_24 c_34 _ ei_3).trans hz) (hP.sub (ws' := [(om, .inr (3, [.int th, .int st, .int lo, .ref ob, .int bm.2.1, .int bm.2.2.1, .int bm.2.2.2.1, .int bm.2.2.2.2, .ref ok, .int km.2, .int qm.1, .int qm.2.1, .int qm.2.2.1, .int qm.2.2.2, .int bd, .int ym.1, .int ym.2.1, .int ym.2.2.1, .int ym.2.2.2])), (ob, .inl (cZ, 5200, .inl bm.1)), (ok, .inl (cK, 600, .inl km.1))]) [0, 1, 2] rfl) ls (lv_sub hl [4, 5, 1, 0] rfl)
        · refine lv_iconst (v := 1) hx hb dX3_byteOf_37 (by decide) ?_
          refine lv_goto (tgt := 42) hx hb dX3_byteOf_38 (by decide) ?_
          refine lv_istore (lv' := [(5, .int 1), (4, .int x_1), (0, .ref om), (1, .int p0), (2, .int b), (3, .int k)]) hx hb dX3_byteOf_42 hl (by decide) rfl (fun ls hl => ?_)
          refine lv_iload hx hb dX3_byteOf_44 (lv_at hl 0 rfl) ?_
          refine lv_if_eq (tgt := 72) hx hb dX3_byteOf_46 (by decide) (fun c_46 => absurd c_46 (by decide)) (fun c_46 => ?_)
          refine lv_iload_n hx hb dX3_byteOf_49 rfl (lv_at hl 4 rfl) ?_
          refine lv_aload_n hx hb dX3_byteOf_50 rfl (lv_at hl 2 rfl) ?_
          refine va_get (D := (dC, dI)) (ci := 3) (v := .int lo) (C := RX3) (T := TX3) (N := 19) hx hb hts inGX3 hown hK hP 0 rfl rfl 2 (by decide) (hts _ wd439) (fun _ h9 => h9) rfl dX3_byteOf_51 ?_
          refine lv_if_eq (tgt := 63) hx hb dX3_byteOf_54 (by decide) (fun c_54 => ?_) (fun c_54 => ?_)
          · refine lv_sipush (v := 128) hx hb dX3_byteOf_63 (by decide) ?_
            refine lv_iload_n hx hb dX3_byteOf_66 rfl (lv_at hl 5 rfl) ?_
            refine lv_ishr hx hb dX3_byteOf_67 ?_
            refine lv_ior hx hb dX3_byteOf_68 ?_
            refine lv_goto (tgt := 73) hx hb dX3_byteOf_69 (by decide) ?_
            refine lv_topi (fun x_4 ex_4 => ?_)
            refine lv_istore_n (lv' := [(2, .int x_4), (5, .int 1), (4, .int x_1), (0, .ref om), (1, .int p0), (3, .int k)]) hx hb dX3_byteOf_73 rfl hl (by decide) rfl (fun ls hl => ?_)
            obtain ⟨i_5, ei_5⟩ : ∃ y : Int32, y = k + 1 := ⟨_, rfl⟩
            refine lv_iinc (v := i_5) (lv' := [(3, .int i_5), (2, .int x_4), (5, .int 1), (4, .int x_1), (0, .ref om), (1, .int p0)]) hx hb dX3_byteOf_74 hl (k := 5) rfl (by rw [ei_5]; rfl) (by decide) rfl (fun ls hl => ?_)
            refine lv_goto (tgt := 4) hx hb dX3_byteOf_77 (by decide) ?_
            exact ih th bm km qm bd ym p0 x_4 i_5 (fuel_step2 hf (nle_lt c_7) (by assumption)) (nneg2 h0 (nle_lt c_7) (by assumption)) hB ((plX3_byteOf_l4_3 st lo n th bm km qm bd ym p0 b k c_7 _ ex_1 c_24 c_34 c_54 _ ex_4 _ ei_5).trans hz) (hP.sub (ws' := [(om, .inr (3, [.int th, .int st, .int lo, .ref ob, .int bm.2.1, .int bm.2.2.1, .int bm.2.2.2.1, .int bm.2.2.2.2, .ref ok, .int km.2, .int qm.1, .int qm.2.1, .int qm.2.2.1, .int qm.2.2.2, .int bd, .int ym.1, .int ym.2.1, .int ym.2.2.1, .int ym.2.2.2])), (ob, .inl (cZ, 5200, .inl bm.1)), (ok, .inl (cK, 600, .inl km.1))]) [0, 1, 2] rfl) ls (lv_sub hl [4, 5, 1, 0] rfl)
          · refine lv_iconst (v := 1) hx hb dX3_byteOf_57 (by decide) ?_
            refine lv_iload_n hx hb dX3_byteOf_58 rfl (lv_at hl 5 rfl) ?_
            refine lv_ishl hx hb dX3_byteOf_59 ?_
            refine lv_goto (tgt := 68) hx hb dX3_byteOf_60 (by decide) ?_
            refine lv_ior hx hb dX3_byteOf_68 ?_
            refine lv_goto (tgt := 73) hx hb dX3_byteOf_69 (by decide) ?_
            refine lv_topi (fun x_6 ex_6 => ?_)
            refine lv_istore_n (lv' := [(2, .int x_6), (5, .int 1), (4, .int x_1), (0, .ref om), (1, .int p0), (3, .int k)]) hx hb dX3_byteOf_73 rfl hl (by decide) rfl (fun ls hl => ?_)
            obtain ⟨i_7, ei_7⟩ : ∃ y : Int32, y = k + 1 := ⟨_, rfl⟩
            refine lv_iinc (v := i_7) (lv' := [(3, .int i_7), (2, .int x_6), (5, .int 1), (4, .int x_1), (0, .ref om), (1, .int p0)]) hx hb dX3_byteOf_74 hl (k := 5) rfl (by rw [ei_7]; rfl) (by decide) rfl (fun ls hl => ?_)
            refine lv_goto (tgt := 4) hx hb dX3_byteOf_77 (by decide) ?_
            exact ih th bm km qm bd ym p0 x_6 i_7 (fuel_step2 hf (nle_lt c_7) (by assumption)) (nneg2 h0 (nle_lt c_7) (by assumption)) hB ((plX3_byteOf_l4_4 st lo n th bm km qm bd ym p0 b k c_7 _ ex_1 c_24 c_34 c_54 _ ex_6 _ ei_7).trans hz) (hP.sub (ws' := [(om, .inr (3, [.int th, .int st, .int lo, .ref ob, .int bm.2.1, .int bm.2.2.1, .int bm.2.2.2.1, .int bm.2.2.2.2, .ref ok, .int km.2, .int qm.1, .int qm.2.1, .int qm.2.2.1, .int qm.2.2.2, .int bd, .int ym.1, .int ym.2.1, .int ym.2.2.1, .int ym.2.2.2])), (ob, .inl (cZ, 5200, .inl bm.1)), (ok, .inl (cK, 600, .inl km.1))]) [0, 1, 2] rfl) ls (lv_sub hl [4, 5, 1, 0] rfl)
set_option maxHeartbeats 4000000 in
set_option maxRecDepth 100000 in
theorem mX3_byteOf (l : Launch) (dC : Nat → ClassId) (dI : Nat → Nat → Nat) (cZ cK : ClassId) (om ob ok : Nat) (st : Int32) (lo : Int32) (th : Int32) (bm : Bm) (km : Rw) (qm : Tk) (bd : Int32) (ym : Tk) (p0 : Int32) (hB : bOk bm.2.1 p0) : Met l yX3_byteOf (Cond.code yX3_byteOf cX3_byteOf 6 (some .int) :: G) ({ frames := 0, cells := 0, slots := 0, locals := 0 } : Room) (va_Pc [.ref om, .int p0] (fun U => va_P (dC, dI) vwCl [(om, .inr (3, [.int th, .int st, .int lo, .ref ob, .int bm.2.1, .int bm.2.2.1, .int bm.2.2.2.1, .int bm.2.2.2.2, .ref ok, .int km.2, .int qm.1, .int qm.2.1, .int qm.2.2.1, .int qm.2.2.2, .int bd, .int ym.1, .int ym.2.1, .int ym.2.2.1, .int ym.2.2.2])), (ob, .inl (cZ, 5200, .inl bm.1)), (ok, .inl (cK, 600, .inl km.1))] U.heap ∧ va_K (dC, dI) vwCl [(cZ, .boolean), (cK, .int)] U ∧ zOk U)) (vp_Si (fun r => r = (FX3_byteOf st lo th bm km qm bd ym p0))) 0 0 (fun _ => False) := by
  refine Met.ofW (cc := cX3_byteOf) (maxL := 6) (ret := (some .int)) (by decide) rfl ?_
  intro p e s m args below meth c s₁ B hml hv
  obtain ⟨rfl, hP, hK, hZ⟩ := hv
  have hx := B.exec
  have hb := B.bytes
  have hr := B.returns
  have hts : ∀ w ∈ G, w.before [.ref om, .int p0].toArray s = true := fun w h => atoms_spec (ws := (Cond.code yX3_byteOf cX3_byteOf 6 (some .int) :: G)) B.pre w (List.mem_cons_of_mem _ h)
  have hown : s.vm.findClass RX3 = some m.cls := findClass_of_methodNamed B.named
  have hlocks := B.notSynchronized
  have hl := lv_entry ([.ref om, .int p0]) (n := 6) (Nat.le_of_ble_eq_true rfl)
  rw [lg_entry_eq]
  generalize (lg_sl ([.ref om, .int p0]) ++ List.replicate (6 - (lg_sl ([.ref om, .int p0])).length) Slot.unset).toArray = ls at hl ⊢
  have hl : lv_has ls 6 [(0, .ref om), (1, .int p0)] := hl
  refine lv_iconst (v := 0) hx hb dX3_byteOf_0 (by decide) ?_
  refine lv_istore_n (lv' := [(2, .int 0), (0, .ref om), (1, .int p0)]) hx hb dX3_byteOf_1 rfl hl (by decide) rfl (fun ls hl => ?_)
  refine lv_iconst (v := 0) hx hb dX3_byteOf_2 (by decide) ?_
  refine lv_istore_n (lv' := [(3, .int 0), (2, .int 0), (0, .ref om), (1, .int p0)]) hx hb dX3_byteOf_3 rfl hl (by decide) rfl (fun ls hl => ?_)
  exact kX3_byteOf_4 hx hb hr hml hown hts hlocks hZ hK 9 th bm km qm bd ym p0 0 0 (fuel_of (by decide) (by decide)) (by decide) hB (plX3_byteOf_0 st lo th bm km qm bd ym p0) (hP.sub (ws' := [(om, .inr (3, [.int th, .int st, .int lo, .ref ob, .int bm.2.1, .int bm.2.2.1, .int bm.2.2.2.1, .int bm.2.2.2.2, .ref ok, .int km.2, .int qm.1, .int qm.2.1, .int qm.2.2.1, .int qm.2.2.2, .int bd, .int ym.1, .int ym.2.1, .int ym.2.2.1, .int ym.2.2.2])), (ob, .inl (cZ, 5200, .inl bm.1)), (ok, .inl (cK, 600, .inl km.1))]) [0, 1, 2] rfl) ls (lv_sub hl [2, 3, 1, 0] rfl)
def FX3_bytesWritten (st : Int32) (lo : Int32) (th : Int32) (bm : Bm) (km : Rw) (qm : Tk) (bd : Int32) (ym : Tk) : Int32 :=
  (bm.2.1 + 7) / 8
set_option maxRecDepth 100000 in
theorem plX3_bytesWritten_0 (st : Int32) (lo : Int32) (th : Int32) (bm : Bm) (km : Rw) (qm : Tk) (bd : Int32) (ym : Tk)  : (bm.2.1 + 7) / 8 = FX3_bytesWritten st lo th bm km qm bd ym := by
  exact rfl
set_option maxHeartbeats 4000000 in
set_option maxRecDepth 100000 in
theorem mX3_bytesWritten (l : Launch) (dC : Nat → ClassId) (dI : Nat → Nat → Nat) (cZ cK : ClassId) (om ob ok : Nat) (st : Int32) (lo : Int32) (th : Int32) (bm : Bm) (km : Rw) (qm : Tk) (bd : Int32) (ym : Tk) : Met l yX3_bytesWritten (Cond.code yX3_bytesWritten cX3_bytesWritten 1 (some .int) :: G) ({ frames := 0, cells := 0, slots := 0, locals := 0 } : Room) (va_Pc [.ref om] (fun U => va_P (dC, dI) vwCl [(om, .inr (3, [.int th, .int st, .int lo, .ref ob, .int bm.2.1, .int bm.2.2.1, .int bm.2.2.2.1, .int bm.2.2.2.2, .ref ok, .int km.2, .int qm.1, .int qm.2.1, .int qm.2.2.1, .int qm.2.2.2, .int bd, .int ym.1, .int ym.2.1, .int ym.2.2.1, .int ym.2.2.2])), (ob, .inl (cZ, 5200, .inl bm.1)), (ok, .inl (cK, 600, .inl km.1))] U.heap ∧ va_K (dC, dI) vwCl [(cZ, .boolean), (cK, .int)] U ∧ zOk U)) (vp_Si (fun r => r = (FX3_bytesWritten st lo th bm km qm bd ym))) 0 0 (fun _ => False) := by
  refine Met.ofW (cc := cX3_bytesWritten) (maxL := 1) (ret := (some .int)) (by decide) rfl ?_
  intro p e s m args below meth c s₁ B hml hv
  obtain ⟨rfl, hP, hK, hZ⟩ := hv
  have hx := B.exec
  have hb := B.bytes
  have hr := B.returns
  have hts : ∀ w ∈ G, w.before [.ref om].toArray s = true := fun w h => atoms_spec (ws := (Cond.code yX3_bytesWritten cX3_bytesWritten 1 (some .int) :: G)) B.pre w (List.mem_cons_of_mem _ h)
  have hown : s.vm.findClass RX3 = some m.cls := findClass_of_methodNamed B.named
  have hlocks := B.notSynchronized
  have hl := lv_entry ([.ref om]) (n := 1) (Nat.le_of_ble_eq_true rfl)
  rw [lg_entry_eq]
  generalize (lg_sl ([.ref om]) ++ List.replicate (1 - (lg_sl ([.ref om])).length) Slot.unset).toArray = ls at hl ⊢
  have hl : lv_has ls 1 [(0, .ref om)] := hl
  refine lv_aload_n hx hb dX3_bytesWritten_0 rfl (lv_at hl 0 rfl) ?_
  refine va_get (D := (dC, dI)) (ci := 3) (v := .int bm.2.1) (C := RX3) (T := TX3) (N := 19) hx hb hts inGX3 hown hK hP 0 rfl rfl 4 (by decide) (hts _ wd441) (fun _ h9 => h9) rfl dX3_bytesWritten_1 ?_
  refine lv_bipush (v := 7) hx hb dX3_bytesWritten_4 (by decide) ?_
  refine lv_iadd hx hb dX3_bytesWritten_6 ?_
  refine lv_bipush (v := 8) hx hb dX3_bytesWritten_7 (by decide) ?_
  refine lv_idiv hx hb dX3_bytesWritten_9 (by decide) ?_
  exact W.iret (v := (bm.2.1 + 7) / 8) hx hb hr (fun t ht hW => ⟨(bm.2.1 + 7) / 8, rfl, (plX3_bytesWritten_0 st lo th bm km qm bd ym), ht⟩) (fun q h => nomatch h) dX3_bytesWritten_10
def FX3_isMark (st : Int32) (lo : Int32) (th : Int32) (bm : Bm) (km : Rw) (qm : Tk) (bd : Int32) (ym : Tk) (p0 : Int32) : Int32 :=
  if km.2 ≤ (p0 + 1) then
    0
  else
    if (km.1 p0.toNatClampNeg) = 255 then
      if (km.1 (p0 + 1).toNatClampNeg) ≤ 127 then
        0
      else
        1
    else
      0
set_option maxRecDepth 100000 in
theorem plX3_isMark_0 (st : Int32) (lo : Int32) (th : Int32) (bm : Bm) (km : Rw) (qm : Tk) (bd : Int32) (ym : Tk) (p0 : Int32) (c_7 : km.2 ≤ (p0 + 1)) : 0 = FX3_isMark st lo th bm km qm bd ym p0 := by
  exact (if_pos c_7).symm
set_option maxRecDepth 100000 in
theorem plX3_isMark_1 (st : Int32) (lo : Int32) (th : Int32) (bm : Bm) (km : Rw) (qm : Tk) (bd : Int32) (ym : Tk) (p0 : Int32) (c_7 : ¬ (km.2 ≤ (p0 + 1))) (c_19 : ¬ ((km.1 p0.toNatClampNeg) = 255)) : 0 = FX3_isMark st lo th bm km qm bd ym p0 := by
  exact ((if_neg c_7).trans (if_neg c_19)).symm
set_option maxRecDepth 100000 in
theorem plX3_isMark_2 (st : Int32) (lo : Int32) (th : Int32) (bm : Bm) (km : Rw) (qm : Tk) (bd : Int32) (ym : Tk) (p0 : Int32) (c_7 : ¬ (km.2 ≤ (p0 + 1))) (c_19 : (km.1 p0.toNatClampNeg) = 255) (c_32 : (km.1 (p0 + 1).toNatClampNeg) ≤ 127) : 0 = FX3_isMark st lo th bm km qm bd ym p0 := by
  exact (((if_neg c_7).trans (if_pos c_19)).trans (if_pos c_32)).symm
set_option maxRecDepth 100000 in
theorem plX3_isMark_3 (st : Int32) (lo : Int32) (th : Int32) (bm : Bm) (km : Rw) (qm : Tk) (bd : Int32) (ym : Tk) (p0 : Int32) (c_7 : ¬ (km.2 ≤ (p0 + 1))) (c_19 : (km.1 p0.toNatClampNeg) = 255) (c_32 : ¬ ((km.1 (p0 + 1).toNatClampNeg) ≤ 127)) : 1 = FX3_isMark st lo th bm km qm bd ym p0 := by
  exact (((if_neg c_7).trans (if_pos c_19)).trans (if_neg c_32)).symm
set_option maxHeartbeats 4000000 in
set_option maxRecDepth 100000 in
theorem mX3_isMark (l : Launch) (dC : Nat → ClassId) (dI : Nat → Nat → Nat) (cZ cK : ClassId) (om ob ok : Nat) (st : Int32) (lo : Int32) (th : Int32) (bm : Bm) (km : Rw) (qm : Tk) (bd : Int32) (ym : Tk) (p0 : Int32) (hM : mOk km.2 p0) : Met l yX3_isMark (Cond.code yX3_isMark cX3_isMark 2 (some .boolean) :: G) ({ frames := 0, cells := 0, slots := 0, locals := 0 } : Room) (va_Pc [.ref om, .int p0] (fun U => va_P (dC, dI) vwCl [(om, .inr (3, [.int th, .int st, .int lo, .ref ob, .int bm.2.1, .int bm.2.2.1, .int bm.2.2.2.1, .int bm.2.2.2.2, .ref ok, .int km.2, .int qm.1, .int qm.2.1, .int qm.2.2.1, .int qm.2.2.2, .int bd, .int ym.1, .int ym.2.1, .int ym.2.2.1, .int ym.2.2.2])), (ob, .inl (cZ, 5200, .inl bm.1)), (ok, .inl (cK, 600, .inl km.1))] U.heap ∧ va_K (dC, dI) vwCl [(cZ, .boolean), (cK, .int)] U ∧ zOk U)) (vp_Si (fun r => r = (FX3_isMark st lo th bm km qm bd ym p0))) 0 0 (fun _ => False) := by
  refine Met.ofW (cc := cX3_isMark) (maxL := 2) (ret := (some .boolean)) (by decide) rfl ?_
  intro p e s m args below meth c s₁ B hml hv
  obtain ⟨rfl, hP, hK, hZ⟩ := hv
  have hx := B.exec
  have hb := B.bytes
  have hr := B.returns
  have hts : ∀ w ∈ G, w.before [.ref om, .int p0].toArray s = true := fun w h => atoms_spec (ws := (Cond.code yX3_isMark cX3_isMark 2 (some .boolean) :: G)) B.pre w (List.mem_cons_of_mem _ h)
  have hown : s.vm.findClass RX3 = some m.cls := findClass_of_methodNamed B.named
  have hlocks := B.notSynchronized
  have hl := lv_entry ([.ref om, .int p0]) (n := 2) (Nat.le_of_ble_eq_true rfl)
  rw [lg_entry_eq]
  generalize (lg_sl ([.ref om, .int p0]) ++ List.replicate (2 - (lg_sl ([.ref om, .int p0])).length) Slot.unset).toArray = ls at hl ⊢
  have hl : lv_has ls 2 [(0, .ref om), (1, .int p0)] := hl
  refine lv_iload_n hx hb dX3_isMark_0 rfl (lv_at hl 1 rfl) ?_
  refine lv_iconst (v := 1) hx hb dX3_isMark_1 (by decide) ?_
  refine lv_iadd hx hb dX3_isMark_2 ?_
  refine lv_aload_n hx hb dX3_isMark_3 rfl (lv_at hl 0 rfl) ?_
  refine va_get (D := (dC, dI)) (ci := 3) (v := .int km.2) (C := RX3) (T := TX3) (N := 19) hx hb hts inGX3 hown hK hP 0 rfl rfl 9 (by decide) (hts _ wd446) (fun _ h9 => h9) rfl dX3_isMark_4 ?_
  refine lv_icmp_ge (tgt := 39) hx hb dX3_isMark_7 (by decide) (fun c_7 => ?_) (fun c_7 => ?_)
  · refine lv_iconst (v := 0) hx hb dX3_isMark_39 (by decide) ?_
    exact W.zret (v := 0) (ty := .boolean) hx hb hr rfl (fun t ht hW => ⟨0, rfl, (plX3_isMark_0 st lo th bm km qm bd ym p0 c_7), ht⟩) (fun q h => nomatch h) dX3_isMark_40
  · refine lv_aload_n hx hb dX3_isMark_10 rfl (lv_at hl 0 rfl) ?_
    refine va_get (D := (dC, dI)) (ci := 3) (v := .ref ok) (C := RX3) (T := TX3) (N := 19) hx hb hts inGX3 hown hK hP 0 rfl rfl 8 (by decide) (hts _ wd445) (fun _ h9 => h9) rfl dX3_isMark_11 ?_
    refine lv_iload_n hx hb dX3_isMark_14 rfl (lv_at hl 1 rfl) ?_
    refine va_iald hx hb hK hP 2 1 rfl rfl (mk_in1 hM c_7) dX3_isMark_15 ?_
    refine lv_sipush (v := 255) hx hb dX3_isMark_16 (by decide) ?_
    refine lv_icmp_ne (tgt := 39) hx hb dX3_isMark_19 (by decide) (fun c_19 => ?_) (fun c_19 => ?_)
    · refine lv_iconst (v := 0) hx hb dX3_isMark_39 (by decide) ?_
      exact W.zret (v := 0) (ty := .boolean) hx hb hr rfl (fun t ht hW => ⟨0, rfl, (plX3_isMark_1 st lo th bm km qm bd ym p0 c_7 c_19), ht⟩) (fun q h => nomatch h) dX3_isMark_40
    · refine lv_aload_n hx hb dX3_isMark_22 rfl (lv_at hl 0 rfl) ?_
      refine va_get (D := (dC, dI)) (ci := 3) (v := .ref ok) (C := RX3) (T := TX3) (N := 19) hx hb hts inGX3 hown hK hP 0 rfl rfl 8 (by decide) (hts _ wd445) (fun _ h9 => h9) rfl dX3_isMark_23 ?_
      refine lv_iload_n hx hb dX3_isMark_26 rfl (lv_at hl 1 rfl) ?_
      refine lv_iconst (v := 1) hx hb dX3_isMark_27 (by decide) ?_
      refine lv_iadd hx hb dX3_isMark_28 ?_
      refine va_iald hx hb hK hP 2 1 rfl rfl (mk_in2 hM c_7) dX3_isMark_29 ?_
      refine lv_bipush (v := 127) hx hb dX3_isMark_30 (by decide) ?_
      refine lv_icmp_le (tgt := 39) hx hb dX3_isMark_32 (by decide) (fun c_32 => ?_) (fun c_32 => ?_)
      · refine lv_iconst (v := 0) hx hb dX3_isMark_39 (by decide) ?_
        exact W.zret (v := 0) (ty := .boolean) hx hb hr rfl (fun t ht hW => ⟨0, rfl, (plX3_isMark_2 st lo th bm km qm bd ym p0 c_7 c_19 c_32), ht⟩) (fun q h => nomatch h) dX3_isMark_40
      · refine lv_iconst (v := 1) hx hb dX3_isMark_35 (by decide) ?_
        refine lv_goto (tgt := 40) hx hb dX3_isMark_36 (by decide) ?_
        exact W.zret (v := 1) (ty := .boolean) hx hb hr rfl (fun t ht hW => ⟨1, rfl, (plX3_isMark_3 st lo th bm km qm bd ym p0 c_7 c_19 c_32), ht⟩) (fun q h => nomatch h) dX3_isMark_40
def FX3_bitAt (st : Int32) (lo : Int32) (th : Int32) (bm : Bm) (km : Rw) (qm : Tk) (bd : Int32) (ym : Tk) (p0 : Int32) : Int32 :=
  let x_1 := km.1 (p0 / 8).toNatClampNeg
  if lo = 0 then
    (x_1 >>> ((7 - (p0 - p0 / 8 * 8)) &&& 31)) &&& 1
  else
    (x_1 >>> ((p0 - p0 / 8 * 8) &&& 31)) &&& 1
set_option maxRecDepth 100000 in
theorem plX3_bitAt_0 (st : Int32) (lo : Int32) (th : Int32) (bm : Bm) (km : Rw) (qm : Tk) (bd : Int32) (ym : Tk) (p0 : Int32) (x_1 : Int32) (ex_1 : x_1 = km.1 (p0 / 8).toNatClampNeg) (c_14 : lo = 0) : (x_1 >>> ((7 - (p0 - p0 / 8 * 8)) &&& 31)) &&& 1 = FX3_bitAt st lo th bm km qm bd ym p0 := by
  subst ex_1
  exact (if_pos c_14).symm
set_option maxRecDepth 100000 in
theorem plX3_bitAt_1 (st : Int32) (lo : Int32) (th : Int32) (bm : Bm) (km : Rw) (qm : Tk) (bd : Int32) (ym : Tk) (p0 : Int32) (x_1 : Int32) (ex_1 : x_1 = km.1 (p0 / 8).toNatClampNeg) (c_14 : ¬ (lo = 0)) : (x_1 >>> ((p0 - p0 / 8 * 8) &&& 31)) &&& 1 = FX3_bitAt st lo th bm km qm bd ym p0 := by
  subst ex_1
  exact (if_neg c_14).symm
set_option maxHeartbeats 4000000 in
set_option maxRecDepth 100000 in
theorem mX3_bitAt (l : Launch) (dC : Nat → ClassId) (dI : Nat → Nat → Nat) (cZ cK : ClassId) (om ob ok : Nat) (st : Int32) (lo : Int32) (th : Int32) (bm : Bm) (km : Rw) (qm : Tk) (bd : Int32) (ym : Tk) (p0 : Int32) (hi : vp_in (p0 / 8) 600) : Met l yX3_bitAt (Cond.code yX3_bitAt cX3_bitAt 3 (some .int) :: G) ({ frames := 0, cells := 0, slots := 0, locals := 0 } : Room) (va_Pc [.ref om, .int p0] (fun U => va_P (dC, dI) vwCl [(om, .inr (3, [.int th, .int st, .int lo, .ref ob, .int bm.2.1, .int bm.2.2.1, .int bm.2.2.2.1, .int bm.2.2.2.2, .ref ok, .int km.2, .int qm.1, .int qm.2.1, .int qm.2.2.1, .int qm.2.2.2, .int bd, .int ym.1, .int ym.2.1, .int ym.2.2.1, .int ym.2.2.2])), (ob, .inl (cZ, 5200, .inl bm.1)), (ok, .inl (cK, 600, .inl km.1))] U.heap ∧ va_K (dC, dI) vwCl [(cZ, .boolean), (cK, .int)] U ∧ zOk U)) (vp_Si (fun r => r = (FX3_bitAt st lo th bm km qm bd ym p0))) 0 0 (fun _ => False) := by
  refine Met.ofW (cc := cX3_bitAt) (maxL := 3) (ret := (some .int)) (by decide) rfl ?_
  intro p e s m args below meth c s₁ B hml hv
  obtain ⟨rfl, hP, hK, hZ⟩ := hv
  have hx := B.exec
  have hb := B.bytes
  have hr := B.returns
  have hts : ∀ w ∈ G, w.before [.ref om, .int p0].toArray s = true := fun w h => atoms_spec (ws := (Cond.code yX3_bitAt cX3_bitAt 3 (some .int) :: G)) B.pre w (List.mem_cons_of_mem _ h)
  have hown : s.vm.findClass RX3 = some m.cls := findClass_of_methodNamed B.named
  have hlocks := B.notSynchronized
  have hl := lv_entry ([.ref om, .int p0]) (n := 3) (Nat.le_of_ble_eq_true rfl)
  rw [lg_entry_eq]
  generalize (lg_sl ([.ref om, .int p0]) ++ List.replicate (3 - (lg_sl ([.ref om, .int p0])).length) Slot.unset).toArray = ls at hl ⊢
  have hl : lv_has ls 3 [(0, .ref om), (1, .int p0)] := hl
  refine lv_aload_n hx hb dX3_bitAt_0 rfl (lv_at hl 0 rfl) ?_
  refine va_get (D := (dC, dI)) (ci := 3) (v := .ref ok) (C := RX3) (T := TX3) (N := 19) hx hb hts inGX3 hown hK hP 0 rfl rfl 8 (by decide) (hts _ wd445) (fun _ h9 => h9) rfl dX3_bitAt_1 ?_
  refine lv_iload_n hx hb dX3_bitAt_4 rfl (lv_at hl 1 rfl) ?_
  refine lv_bipush (v := 8) hx hb dX3_bitAt_5 (by decide) ?_
  refine lv_idiv hx hb dX3_bitAt_7 (by decide) ?_
  refine va_iald hx hb hK hP 2 1 rfl rfl hi dX3_bitAt_8 ?_
  refine lv_topi (fun x_1 ex_1 => ?_)
  refine lv_istore_n (lv' := [(2, .int x_1), (0, .ref om), (1, .int p0)]) hx hb dX3_bitAt_9 rfl hl (by decide) rfl (fun ls hl => ?_)
  refine lv_aload_n hx hb dX3_bitAt_10 rfl (lv_at hl 1 rfl) ?_
  refine va_get (D := (dC, dI)) (ci := 3) (v := .int lo) (C := RX3) (T := TX3) (N := 19) hx hb hts inGX3 hown hK hP 0 rfl rfl 2 (by decide) (hts _ wd439) (fun _ h9 => h9) rfl dX3_bitAt_11 ?_
  refine lv_if_eq (tgt := 28) hx hb dX3_bitAt_14 (by decide) (fun c_14 => ?_) (fun c_14 => ?_)
  · refine lv_iload_n hx hb dX3_bitAt_28 rfl (lv_at hl 0 rfl) ?_
    refine lv_bipush (v := 7) hx hb dX3_bitAt_29 (by decide) ?_
    refine lv_iload_n hx hb dX3_bitAt_31 rfl (lv_at hl 2 rfl) ?_
    refine lv_bipush (v := 8) hx hb dX3_bitAt_32 (by decide) ?_
    refine lv_irem hx hb dX3_bitAt_34 (by decide) ?_
    refine lv_isub hx hb dX3_bitAt_35 ?_
    refine lv_ishr hx hb dX3_bitAt_36 ?_
    refine lv_iconst (v := 1) hx hb dX3_bitAt_37 (by decide) ?_
    refine lv_iand hx hb dX3_bitAt_38 ?_
    exact W.iret (v := (x_1 >>> ((7 - (p0 - p0 / 8 * 8)) &&& 31)) &&& 1) hx hb hr (fun t ht hW => ⟨(x_1 >>> ((7 - (p0 - p0 / 8 * 8)) &&& 31)) &&& 1, rfl, (plX3_bitAt_0 st lo th bm km qm bd ym p0 _ ex_1 c_14), ht⟩) (fun q h => nomatch h) dX3_bitAt_39
  · refine lv_iload_n hx hb dX3_bitAt_17 rfl (lv_at hl 0 rfl) ?_
    refine lv_iload_n hx hb dX3_bitAt_18 rfl (lv_at hl 2 rfl) ?_
    refine lv_bipush (v := 8) hx hb dX3_bitAt_19 (by decide) ?_
    refine lv_irem hx hb dX3_bitAt_21 (by decide) ?_
    refine lv_ishr hx hb dX3_bitAt_22 ?_
    refine lv_iconst (v := 1) hx hb dX3_bitAt_23 (by decide) ?_
    refine lv_iand hx hb dX3_bitAt_24 ?_
    refine lv_goto (tgt := 39) hx hb dX3_bitAt_25 (by decide) ?_
    exact W.iret (v := (x_1 >>> ((p0 - p0 / 8 * 8) &&& 31)) &&& 1) hx hb hr (fun t ht hW => ⟨(x_1 >>> ((p0 - p0 / 8 * 8) &&& 31)) &&& 1, rfl, (plX3_bitAt_1 st lo th bm km qm bd ym p0 _ ex_1 c_14), ht⟩) (fun q h => nomatch h) dX3_bitAt_39
def LX3_sum16_5  : Nat → Int32 → Int32 → Int32 → Int32 → Int32
  | 0, p0, p1, sm, k => 0
  | n + 1, p0, p1, sm, k =>
    if k < 0 then
      sm
    else
      let x_1 := (sm >>> (15 &&& 31)) &&& 1
      let x_2 := (sm <<< (1 &&& 31)) &&& 65535
      if x_1 = ((p1 >>> (k &&& 31)) &&& 1) then
        let i_3 := k + (-1)
        LX3_sum16_5 n p0 p1 x_2 i_3
      else
        let x_4 := x_2 ^^^ 4129
        let i_5 := k + (-1)
        LX3_sum16_5 n p0 p1 x_4 i_5
def FX3_sum16 (p0 : Int32) (p1 : Int32) : Int32 :=
  LX3_sum16_5 9 p0 p1 p0 7
set_option maxRecDepth 100000 in
theorem plX3_sum16_l5_0 (n : Nat) (p0 : Int32) (p1 : Int32) (sm : Int32) (k : Int32) (c_6 : k < 0) : sm = LX3_sum16_5 (n + 1) p0 p1 sm k := by
  exact (if_pos c_6).symm
set_option maxRecDepth 100000 in
theorem plX3_sum16_l5_1 (n : Nat) (p0 : Int32) (p1 : Int32) (sm : Int32) (k : Int32) (c_6 : ¬ (k < 0)) (x_1 : Int32) (ex_1 : x_1 = (sm >>> (15 &&& 31)) &&& 1) (x_2 : Int32) (ex_2 : x_2 = (sm <<< (1 &&& 31)) &&& 65535) (c_31 : x_1 = ((p1 >>> (k &&& 31)) &&& 1)) (i_3 : Int32) (ei_3 : i_3 = k + (-1)) : LX3_sum16_5 n p0 p1 x_2 i_3 = LX3_sum16_5 (n + 1) p0 p1 sm k := by
  subst ex_1
  subst ex_2
  subst ei_3
  exact ((if_neg c_6).trans (if_pos c_31)).symm
set_option maxRecDepth 100000 in
theorem plX3_sum16_l5_2 (n : Nat) (p0 : Int32) (p1 : Int32) (sm : Int32) (k : Int32) (c_6 : ¬ (k < 0)) (x_1 : Int32) (ex_1 : x_1 = (sm >>> (15 &&& 31)) &&& 1) (x_2 : Int32) (ex_2 : x_2 = (sm <<< (1 &&& 31)) &&& 65535) (c_31 : ¬ (x_1 = ((p1 >>> (k &&& 31)) &&& 1))) (x_4 : Int32) (ex_4 : x_4 = x_2 ^^^ 4129) (i_5 : Int32) (ei_5 : i_5 = k + (-1)) : LX3_sum16_5 n p0 p1 x_4 i_5 = LX3_sum16_5 (n + 1) p0 p1 sm k := by
  subst ex_1
  subst ex_2
  subst ex_4
  subst ei_5
  exact ((if_neg c_6).trans (if_neg c_31)).symm
set_option maxRecDepth 100000 in
theorem plX3_sum16_0 (p0 : Int32) (p1 : Int32)  : LX3_sum16_5 9 p0 p1 p0 7 = FX3_sum16 p0 p1 := by
  exact rfl
set_option maxHeartbeats 4000000 in
set_option maxRecDepth 100000 in
theorem kX3_sum16_5 {p : Program} {l : Launch} {e : Env} {s : State} {m : MethodId} {args : Array Value} {below : List Frame} {meth : Method} {c : Code} {z : Int32} (hx : p.tables.exec = Jvm.exec) (hb : c.code = cX3_sum16) (hr : meth.sig.returnType = (some .int)) (hml : c.maxLocals = 5) (hown : s.vm.findClass RX3 = some m.cls) (hts : ∀ w ∈ G, w.before args s = true) (hlocks : meth.locks = false) (hZ : zOk s) : ∀ (n : Nat) (p0 : Int32) (p1 : Int32) (sm : Int32) (k : Int32), (dfu n k) → LX3_sum16_5 n p0 p1 sm k = z → ∀ (ls : Array Slot), lv_has ls 5 [(0, .int p0), (1, .int p1), (2, .int sm), (3, .int k)] → W p l e (headSpec (Cond.code yX3_sum16 cX3_sum16 5 (some .int) :: G) ({ frames := 0, cells := 0, slots := 0, locals := 0 } : Room)).room s m args below meth c s.heap [] 0 0 (MQ below (vp_Si (fun r => r = z)) args s 0 0 (fun _ => False)) (F0 m 5 ls []) := by
  intro n
  induction n with
  | zero =>
    intro p0 p1 sm k hf hz
    exact absurd hf.1 (Nat.lt_irrefl 0)
  | succ n ih =>
    intro p0 p1 sm k hf hz ls hl
    refine lv_iload_n hx hb dX3_sum16_5 rfl (lv_at hl 3 rfl) ?_
    refine lv_if_lt (tgt := 50) hx hb dX3_sum16_6 (by decide) (fun c_6 => ?_) (fun c_6 => ?_)
    · refine lv_iload_n hx hb dX3_sum16_50 rfl (lv_at hl 2 rfl) ?_
      exact W.iret (v := sm) hx hb hr (fun t ht hW => ⟨sm, rfl, ((plX3_sum16_l5_0 n p0 p1 sm k c_6).trans hz), ht⟩) (fun q h => nomatch h) dX3_sum16_51
    · refine lv_iload_n hx hb dX3_sum16_9 rfl (lv_at hl 2 rfl) ?_
      refine lv_bipush (v := 15) hx hb dX3_sum16_10 (by decide) ?_
      refine lv_ishr hx hb dX3_sum16_12 ?_
      refine lv_iconst (v := 1) hx hb dX3_sum16_13 (by decide) ?_
      refine lv_iand hx hb dX3_sum16_14 ?_
      refine lv_topi (fun x_1 ex_1 => ?_)
      refine lv_istore (lv' := [(4, .int x_1), (0, .int p0), (1, .int p1), (2, .int sm), (3, .int k)]) hx hb dX3_sum16_15 hl (by decide) rfl (fun ls hl => ?_)
      refine lv_iload_n hx hb dX3_sum16_17 rfl (lv_at hl 3 rfl) ?_
      refine lv_iconst (v := 1) hx hb dX3_sum16_18 (by decide) ?_
      refine lv_ishl hx hb dX3_sum16_19 ?_
      refine lv_ldc (v := 65535) hx hb hown (hts _ wd598) dX3_sum16_20 ?_
      refine lv_iand hx hb dX3_sum16_22 ?_
      refine lv_topi (fun x_2 ex_2 => ?_)
      refine lv_istore_n (lv' := [(2, .int x_2), (4, .int x_1), (0, .int p0), (1, .int p1), (3, .int k)]) hx hb dX3_sum16_23 rfl hl (by decide) rfl (fun ls hl => ?_)
      refine lv_iload hx hb dX3_sum16_24 (lv_at hl 1 rfl) ?_
      refine lv_iload_n hx hb dX3_sum16_26 rfl (lv_at hl 3 rfl) ?_
      refine lv_iload_n hx hb dX3_sum16_27 rfl (lv_at hl 4 rfl) ?_
      refine lv_ishr hx hb dX3_sum16_28 ?_
      refine lv_iconst (v := 1) hx hb dX3_sum16_29 (by decide) ?_
      refine lv_iand hx hb dX3_sum16_30 ?_
      refine lv_icmp_eq (tgt := 42) hx hb dX3_sum16_31 (by decide) (fun c_31 => ?_) (fun c_31 => ?_)
      · refine lv_iload_n hx hb dX3_sum16_42 rfl (lv_at hl 0 rfl) ?_
        refine lv_istore_n (lv' := [(2, .int x_2), (4, .int x_1), (0, .int p0), (1, .int p1), (3, .int k)]) hx hb dX3_sum16_43 rfl hl (by decide) rfl (fun ls hl => ?_)
        obtain ⟨i_3, ei_3⟩ : ∃ y : Int32, y = k + (-1) := ⟨_, rfl⟩
        refine lv_iinc (v := i_3) (lv' := [(3, .int i_3), (2, .int x_2), (4, .int x_1), (0, .int p0), (1, .int p1)]) hx hb dX3_sum16_44 hl (k := 4) rfl (by rw [ei_3]; rfl) (by decide) rfl (fun ls hl => ?_)
        refine lv_goto (tgt := 5) hx hb dX3_sum16_47 (by decide) ?_
        exact ih p0 p1 x_2 i_3 (dfu_step hf c_6 (by assumption)) ((plX3_sum16_l5_1 n p0 p1 sm k c_6 _ ex_1 _ ex_2 c_31 _ ei_3).trans hz) ls (lv_sub hl [3, 4, 1, 0] rfl)
      · refine lv_iload_n hx hb dX3_sum16_34 rfl (lv_at hl 0 rfl) ?_
        refine lv_sipush (v := 4129) hx hb dX3_sum16_35 (by decide) ?_
        refine lv_ixor hx hb dX3_sum16_38 ?_
        refine lv_goto (tgt := 43) hx hb dX3_sum16_39 (by decide) ?_
        refine lv_topi (fun x_4 ex_4 => ?_)
        refine lv_istore_n (lv' := [(2, .int x_4), (4, .int x_1), (0, .int p0), (1, .int p1), (3, .int k)]) hx hb dX3_sum16_43 rfl hl (by decide) rfl (fun ls hl => ?_)
        obtain ⟨i_5, ei_5⟩ : ∃ y : Int32, y = k + (-1) := ⟨_, rfl⟩
        refine lv_iinc (v := i_5) (lv' := [(3, .int i_5), (2, .int x_4), (4, .int x_1), (0, .int p0), (1, .int p1)]) hx hb dX3_sum16_44 hl (k := 4) rfl (by rw [ei_5]; rfl) (by decide) rfl (fun ls hl => ?_)
        refine lv_goto (tgt := 5) hx hb dX3_sum16_47 (by decide) ?_
        exact ih p0 p1 x_4 i_5 (dfu_step hf c_6 (by assumption)) ((plX3_sum16_l5_2 n p0 p1 sm k c_6 _ ex_1 _ ex_2 c_31 _ ex_4 _ ei_5).trans hz) ls (lv_sub hl [3, 4, 1, 0] rfl)
set_option maxHeartbeats 4000000 in
set_option maxRecDepth 100000 in
theorem mX3_sum16 (l : Launch) (dC : Nat → ClassId) (dI : Nat → Nat → Nat) (p0 : Int32) (p1 : Int32) : Met l yX3_sum16 (Cond.code yX3_sum16 cX3_sum16 5 (some .int) :: G) ({ frames := 0, cells := 0, slots := 0, locals := 0 } : Room) (va_Pc [.int p0, .int p1] zOk) (vp_Si (fun r => r = (FX3_sum16 p0 p1))) 0 0 (fun _ => False) := by
  refine Met.ofW (cc := cX3_sum16) (maxL := 5) (ret := (some .int)) (by decide) rfl ?_
  intro p e s m args below meth c s₁ B hml hv
  obtain ⟨rfl, hZ⟩ := hv
  have hx := B.exec
  have hb := B.bytes
  have hr := B.returns
  have hts : ∀ w ∈ G, w.before [.int p0, .int p1].toArray s = true := fun w h => atoms_spec (ws := (Cond.code yX3_sum16 cX3_sum16 5 (some .int) :: G)) B.pre w (List.mem_cons_of_mem _ h)
  have hown : s.vm.findClass RX3 = some m.cls := findClass_of_methodNamed B.named
  have hlocks := B.notSynchronized
  have hl := lv_entry ([.int p0, .int p1]) (n := 5) (Nat.le_of_ble_eq_true rfl)
  rw [lg_entry_eq]
  generalize (lg_sl ([.int p0, .int p1]) ++ List.replicate (5 - (lg_sl ([.int p0, .int p1])).length) Slot.unset).toArray = ls at hl ⊢
  have hl : lv_has ls 5 [(0, .int p0), (1, .int p1)] := hl
  refine lv_iload_n hx hb dX3_sum16_0 rfl (lv_at hl 0 rfl) ?_
  refine lv_istore_n (lv' := [(2, .int p0), (0, .int p0), (1, .int p1)]) hx hb dX3_sum16_1 rfl hl (by decide) rfl (fun ls hl => ?_)
  refine lv_bipush (v := 7) hx hb dX3_sum16_2 (by decide) ?_
  refine lv_istore_n (lv' := [(3, .int 7), (2, .int p0), (0, .int p0), (1, .int p1)]) hx hb dX3_sum16_4 rfl hl (by decide) rfl (fun ls hl => ?_)
  exact kX3_sum16_5 hx hb hr hml hown hts hlocks hZ 9 p0 p1 p0 7 (⟨by decide, by decide, by decide, by decide⟩) (plX3_sum16_0 p0 p1) ls (lv_sub hl [2, 3, 1, 0] rfl)
def LX3_sum32_4  : Nat → Int32 → Int32 → Int32 → Int32 → Int32
  | 0, p0, p1, sm, k => 0
  | n + 1, p0, p1, sm, k =>
    if 8 ≤ k then
      sm
    else
      let x_1 := sm &&& 1
      let x_2 := (sm.toUInt32 >>> ((1 : Int32).toUInt32 &&& Int32.toUInt32 31)).toInt32
      if x_1 = ((p1 >>> (k &&& 31)) &&& 1) then
        let i_3 := k + 1
        LX3_sum32_4 n p0 p1 x_2 i_3
      else
        let x_4 := x_2 ^^^ (-306674912)
        let i_5 := k + 1
        LX3_sum32_4 n p0 p1 x_4 i_5
def FX3_sum32 (p0 : Int32) (p1 : Int32) : Int32 :=
  LX3_sum32_4 9 p0 p1 p0 0
set_option maxRecDepth 100000 in
theorem plX3_sum32_l4_0 (n : Nat) (p0 : Int32) (p1 : Int32) (sm : Int32) (k : Int32) (c_7 : 8 ≤ k) : sm = LX3_sum32_4 (n + 1) p0 p1 sm k := by
  exact (if_pos c_7).symm
set_option maxRecDepth 100000 in
theorem plX3_sum32_l4_1 (n : Nat) (p0 : Int32) (p1 : Int32) (sm : Int32) (k : Int32) (c_7 : ¬ (8 ≤ k)) (x_1 : Int32) (ex_1 : x_1 = sm &&& 1) (x_2 : Int32) (ex_2 : x_2 = (sm.toUInt32 >>> ((1 : Int32).toUInt32 &&& Int32.toUInt32 31)).toInt32) (c_26 : x_1 = ((p1 >>> (k &&& 31)) &&& 1)) (i_3 : Int32) (ei_3 : i_3 = k + 1) : LX3_sum32_4 n p0 p1 x_2 i_3 = LX3_sum32_4 (n + 1) p0 p1 sm k := by
  subst ex_1
  subst ex_2
  subst ei_3
  exact ((if_neg c_7).trans (if_pos c_26)).symm
set_option maxRecDepth 100000 in
theorem plX3_sum32_l4_2 (n : Nat) (p0 : Int32) (p1 : Int32) (sm : Int32) (k : Int32) (c_7 : ¬ (8 ≤ k)) (x_1 : Int32) (ex_1 : x_1 = sm &&& 1) (x_2 : Int32) (ex_2 : x_2 = (sm.toUInt32 >>> ((1 : Int32).toUInt32 &&& Int32.toUInt32 31)).toInt32) (c_26 : ¬ (x_1 = ((p1 >>> (k &&& 31)) &&& 1))) (x_4 : Int32) (ex_4 : x_4 = x_2 ^^^ (-306674912)) (i_5 : Int32) (ei_5 : i_5 = k + 1) : LX3_sum32_4 n p0 p1 x_4 i_5 = LX3_sum32_4 (n + 1) p0 p1 sm k := by
  subst ex_1
  subst ex_2
  subst ex_4
  subst ei_5
  exact ((if_neg c_7).trans (if_neg c_26)).symm
set_option maxRecDepth 100000 in
theorem plX3_sum32_0 (p0 : Int32) (p1 : Int32)  : LX3_sum32_4 9 p0 p1 p0 0 = FX3_sum32 p0 p1 := by
  exact rfl
set_option maxHeartbeats 4000000 in
set_option maxRecDepth 100000 in
theorem kX3_sum32_4 {p : Program} {l : Launch} {e : Env} {s : State} {m : MethodId} {args : Array Value} {below : List Frame} {meth : Method} {c : Code} {z : Int32} (hx : p.tables.exec = Jvm.exec) (hb : c.code = cX3_sum32) (hr : meth.sig.returnType = (some .int)) (hml : c.maxLocals = 5) (hown : s.vm.findClass RX3 = some m.cls) (hts : ∀ w ∈ G, w.before args s = true) (hlocks : meth.locks = false) (hZ : zOk s) : ∀ (n : Nat) (p0 : Int32) (p1 : Int32) (sm : Int32) (k : Int32), (fuel n k 8) → LX3_sum32_4 n p0 p1 sm k = z → ∀ (ls : Array Slot), lv_has ls 5 [(0, .int p0), (1, .int p1), (2, .int sm), (3, .int k)] → W p l e (headSpec (Cond.code yX3_sum32 cX3_sum32 5 (some .int) :: G) ({ frames := 0, cells := 0, slots := 0, locals := 0 } : Room)).room s m args below meth c s.heap [] 0 0 (MQ below (vp_Si (fun r => r = z)) args s 0 0 (fun _ => False)) (F0 m 4 ls []) := by
  intro n
  induction n with
  | zero =>
    intro p0 p1 sm k hf hz
    exact absurd hf.1 (Nat.lt_irrefl 0)
  | succ n ih =>
    intro p0 p1 sm k hf hz ls hl
    refine lv_iload_n hx hb dX3_sum32_4 rfl (lv_at hl 3 rfl) ?_
    refine lv_bipush (v := 8) hx hb dX3_sum32_5 (by decide) ?_
    refine lv_icmp_ge (tgt := 44) hx hb dX3_sum32_7 (by decide) (fun c_7 => ?_) (fun c_7 => ?_)
    · refine lv_iload_n hx hb dX3_sum32_44 rfl (lv_at hl 2 rfl) ?_
      exact W.iret (v := sm) hx hb hr (fun t ht hW => ⟨sm, rfl, ((plX3_sum32_l4_0 n p0 p1 sm k c_7).trans hz), ht⟩) (fun q h => nomatch h) dX3_sum32_45
    · refine lv_iload_n hx hb dX3_sum32_10 rfl (lv_at hl 2 rfl) ?_
      refine lv_iconst (v := 1) hx hb dX3_sum32_11 (by decide) ?_
      refine lv_iand hx hb dX3_sum32_12 ?_
      refine lv_topi (fun x_1 ex_1 => ?_)
      refine lv_istore (lv' := [(4, .int x_1), (0, .int p0), (1, .int p1), (2, .int sm), (3, .int k)]) hx hb dX3_sum32_13 hl (by decide) rfl (fun ls hl => ?_)
      refine lv_iload_n hx hb dX3_sum32_15 rfl (lv_at hl 3 rfl) ?_
      refine lv_iconst (v := 1) hx hb dX3_sum32_16 (by decide) ?_
      refine lv_iushr (v := (sm.toUInt32 >>> ((1 : Int32).toUInt32 &&& Int32.toUInt32 31)).toInt32) hx hb dX3_sum32_17 rfl ?_
      refine lv_topi (fun x_2 ex_2 => ?_)
      refine lv_istore_n (lv' := [(2, .int x_2), (4, .int x_1), (0, .int p0), (1, .int p1), (3, .int k)]) hx hb dX3_sum32_18 rfl hl (by decide) rfl (fun ls hl => ?_)
      refine lv_iload hx hb dX3_sum32_19 (lv_at hl 1 rfl) ?_
      refine lv_iload_n hx hb dX3_sum32_21 rfl (lv_at hl 3 rfl) ?_
      refine lv_iload_n hx hb dX3_sum32_22 rfl (lv_at hl 4 rfl) ?_
      refine lv_ishr hx hb dX3_sum32_23 ?_
      refine lv_iconst (v := 1) hx hb dX3_sum32_24 (by decide) ?_
      refine lv_iand hx hb dX3_sum32_25 ?_
      refine lv_icmp_eq (tgt := 36) hx hb dX3_sum32_26 (by decide) (fun c_26 => ?_) (fun c_26 => ?_)
      · refine lv_iload_n hx hb dX3_sum32_36 rfl (lv_at hl 0 rfl) ?_
        refine lv_istore_n (lv' := [(2, .int x_2), (4, .int x_1), (0, .int p0), (1, .int p1), (3, .int k)]) hx hb dX3_sum32_37 rfl hl (by decide) rfl (fun ls hl => ?_)
        obtain ⟨i_3, ei_3⟩ : ∃ y : Int32, y = k + 1 := ⟨_, rfl⟩
        refine lv_iinc (v := i_3) (lv' := [(3, .int i_3), (2, .int x_2), (4, .int x_1), (0, .int p0), (1, .int p1)]) hx hb dX3_sum32_38 hl (k := 4) rfl (by rw [ei_3]; rfl) (by decide) rfl (fun ls hl => ?_)
        refine lv_goto (tgt := 4) hx hb dX3_sum32_41 (by decide) ?_
        exact ih p0 p1 x_2 i_3 (fuel_step2 hf (nle_lt c_7) (by assumption)) ((plX3_sum32_l4_1 n p0 p1 sm k c_7 _ ex_1 _ ex_2 c_26 _ ei_3).trans hz) ls (lv_sub hl [3, 4, 1, 0] rfl)
      · refine lv_iload_n hx hb dX3_sum32_29 rfl (lv_at hl 0 rfl) ?_
        refine lv_ldc (v := (-306674912)) hx hb hown (hts _ wd605) dX3_sum32_30 ?_
        refine lv_ixor hx hb dX3_sum32_32 ?_
        refine lv_goto (tgt := 37) hx hb dX3_sum32_33 (by decide) ?_
        refine lv_topi (fun x_4 ex_4 => ?_)
        refine lv_istore_n (lv' := [(2, .int x_4), (4, .int x_1), (0, .int p0), (1, .int p1), (3, .int k)]) hx hb dX3_sum32_37 rfl hl (by decide) rfl (fun ls hl => ?_)
        obtain ⟨i_5, ei_5⟩ : ∃ y : Int32, y = k + 1 := ⟨_, rfl⟩
        refine lv_iinc (v := i_5) (lv' := [(3, .int i_5), (2, .int x_4), (4, .int x_1), (0, .int p0), (1, .int p1)]) hx hb dX3_sum32_38 hl (k := 4) rfl (by rw [ei_5]; rfl) (by decide) rfl (fun ls hl => ?_)
        refine lv_goto (tgt := 4) hx hb dX3_sum32_41 (by decide) ?_
        exact ih p0 p1 x_4 i_5 (fuel_step2 hf (nle_lt c_7) (by assumption)) ((plX3_sum32_l4_2 n p0 p1 sm k c_7 _ ex_1 _ ex_2 c_26 _ ex_4 _ ei_5).trans hz) ls (lv_sub hl [3, 4, 1, 0] rfl)
set_option maxHeartbeats 4000000 in
set_option maxRecDepth 100000 in
theorem mX3_sum32 (l : Launch) (dC : Nat → ClassId) (dI : Nat → Nat → Nat) (p0 : Int32) (p1 : Int32) : Met l yX3_sum32 (Cond.code yX3_sum32 cX3_sum32 5 (some .int) :: G) ({ frames := 0, cells := 0, slots := 0, locals := 0 } : Room) (va_Pc [.int p0, .int p1] zOk) (vp_Si (fun r => r = (FX3_sum32 p0 p1))) 0 0 (fun _ => False) := by
  refine Met.ofW (cc := cX3_sum32) (maxL := 5) (ret := (some .int)) (by decide) rfl ?_
  intro p e s m args below meth c s₁ B hml hv
  obtain ⟨rfl, hZ⟩ := hv
  have hx := B.exec
  have hb := B.bytes
  have hr := B.returns
  have hts : ∀ w ∈ G, w.before [.int p0, .int p1].toArray s = true := fun w h => atoms_spec (ws := (Cond.code yX3_sum32 cX3_sum32 5 (some .int) :: G)) B.pre w (List.mem_cons_of_mem _ h)
  have hown : s.vm.findClass RX3 = some m.cls := findClass_of_methodNamed B.named
  have hlocks := B.notSynchronized
  have hl := lv_entry ([.int p0, .int p1]) (n := 5) (Nat.le_of_ble_eq_true rfl)
  rw [lg_entry_eq]
  generalize (lg_sl ([.int p0, .int p1]) ++ List.replicate (5 - (lg_sl ([.int p0, .int p1])).length) Slot.unset).toArray = ls at hl ⊢
  have hl : lv_has ls 5 [(0, .int p0), (1, .int p1)] := hl
  refine lv_iload_n hx hb dX3_sum32_0 rfl (lv_at hl 0 rfl) ?_
  refine lv_istore_n (lv' := [(2, .int p0), (0, .int p0), (1, .int p1)]) hx hb dX3_sum32_1 rfl hl (by decide) rfl (fun ls hl => ?_)
  refine lv_iconst (v := 0) hx hb dX3_sum32_2 (by decide) ?_
  refine lv_istore_n (lv' := [(3, .int 0), (2, .int p0), (0, .int p0), (1, .int p1)]) hx hb dX3_sum32_3 rfl hl (by decide) rfl (fun ls hl => ?_)
  exact kX3_sum32_4 hx hb hr hml hown hts hlocks hZ 9 p0 p1 p0 0 (fuel_of (by decide) (by decide)) (plX3_sum32_0 p0 p1) ls (lv_sub hl [2, 3, 1, 0] rfl)
def FX3_told (st : Int32) (lo : Int32) (th : Int32) (bm : Bm) (km : Rw) (qm : Tk) (bd : Int32) (ym : Tk) (p0 : Int32) : Int32 × Int32 :=
  if p0 = 0 then
    (st, 0)
  else
    if p0 = 1 then
      if lo = 0 then
        (0, 0)
      else
        (1, 0)
    else
      if p0 = 2 then
        (bm.2.1, 0)
      else
        if p0 = 3 then
          (bm.2.2.1, 0)
        else
          if p0 = 4 then
            (km.2, 0)
          else
            if p0 = 5 then
              (qm.1, 0)
            else
              if p0 = 6 then
                (qm.2.1, 0)
              else
                if p0 = 7 then
                  if bd = 0 then
                    (0, 0)
                  else
                    (1, 0)
                else
                  ((-1), 0)
set_option maxRecDepth 100000 in
theorem plX3_told_0 (st : Int32) (lo : Int32) (th : Int32) (bm : Bm) (km : Rw) (qm : Tk) (bd : Int32) (ym : Tk) (p0 : Int32) (c6_0 : p0 = 0) : (st, 0) = FX3_told st lo th bm km qm bd ym p0 := by
  exact (if_pos c6_0).symm
set_option maxRecDepth 100000 in
theorem plX3_told_1 (st : Int32) (lo : Int32) (th : Int32) (bm : Bm) (km : Rw) (qm : Tk) (bd : Int32) (ym : Tk) (p0 : Int32) (c6_0 : ¬ (p0 = 0)) (c6_1 : p0 = 1) (c_61 : lo = 0) : (0, 0) = FX3_told st lo th bm km qm bd ym p0 := by
  exact (((if_neg c6_0).trans (if_pos c6_1)).trans (if_pos c_61)).symm
set_option maxRecDepth 100000 in
theorem plX3_told_2 (st : Int32) (lo : Int32) (th : Int32) (bm : Bm) (km : Rw) (qm : Tk) (bd : Int32) (ym : Tk) (p0 : Int32) (c6_0 : ¬ (p0 = 0)) (c6_1 : p0 = 1) (c_61 : ¬ (lo = 0)) : (1, 0) = FX3_told st lo th bm km qm bd ym p0 := by
  exact (((if_neg c6_0).trans (if_pos c6_1)).trans (if_neg c_61)).symm
set_option maxRecDepth 100000 in
theorem plX3_told_3 (st : Int32) (lo : Int32) (th : Int32) (bm : Bm) (km : Rw) (qm : Tk) (bd : Int32) (ym : Tk) (p0 : Int32) (c6_0 : ¬ (p0 = 0)) (c6_1 : ¬ (p0 = 1)) (c6_2 : p0 = 2) : (bm.2.1, 0) = FX3_told st lo th bm km qm bd ym p0 := by
  exact (((if_neg c6_0).trans (if_neg c6_1)).trans (if_pos c6_2)).symm
set_option maxRecDepth 100000 in
theorem plX3_told_4 (st : Int32) (lo : Int32) (th : Int32) (bm : Bm) (km : Rw) (qm : Tk) (bd : Int32) (ym : Tk) (p0 : Int32) (c6_0 : ¬ (p0 = 0)) (c6_1 : ¬ (p0 = 1)) (c6_2 : ¬ (p0 = 2)) (c6_3 : p0 = 3) : (bm.2.2.1, 0) = FX3_told st lo th bm km qm bd ym p0 := by
  exact ((((if_neg c6_0).trans (if_neg c6_1)).trans (if_neg c6_2)).trans (if_pos c6_3)).symm
set_option maxRecDepth 100000 in
theorem plX3_told_5 (st : Int32) (lo : Int32) (th : Int32) (bm : Bm) (km : Rw) (qm : Tk) (bd : Int32) (ym : Tk) (p0 : Int32) (c6_0 : ¬ (p0 = 0)) (c6_1 : ¬ (p0 = 1)) (c6_2 : ¬ (p0 = 2)) (c6_3 : ¬ (p0 = 3)) (c6_4 : p0 = 4) : (km.2, 0) = FX3_told st lo th bm km qm bd ym p0 := by
  exact (((((if_neg c6_0).trans (if_neg c6_1)).trans (if_neg c6_2)).trans (if_neg c6_3)).trans (if_pos c6_4)).symm
set_option maxRecDepth 100000 in
theorem plX3_told_6 (st : Int32) (lo : Int32) (th : Int32) (bm : Bm) (km : Rw) (qm : Tk) (bd : Int32) (ym : Tk) (p0 : Int32) (c6_0 : ¬ (p0 = 0)) (c6_1 : ¬ (p0 = 1)) (c6_2 : ¬ (p0 = 2)) (c6_3 : ¬ (p0 = 3)) (c6_4 : ¬ (p0 = 4)) (c6_5 : p0 = 5) : (qm.1, 0) = FX3_told st lo th bm km qm bd ym p0 := by
  exact ((((((if_neg c6_0).trans (if_neg c6_1)).trans (if_neg c6_2)).trans (if_neg c6_3)).trans (if_neg c6_4)).trans (if_pos c6_5)).symm
set_option maxRecDepth 100000 in
theorem plX3_told_7 (st : Int32) (lo : Int32) (th : Int32) (bm : Bm) (km : Rw) (qm : Tk) (bd : Int32) (ym : Tk) (p0 : Int32) (c6_0 : ¬ (p0 = 0)) (c6_1 : ¬ (p0 = 1)) (c6_2 : ¬ (p0 = 2)) (c6_3 : ¬ (p0 = 3)) (c6_4 : ¬ (p0 = 4)) (c6_5 : ¬ (p0 = 5)) (c6_6 : p0 = 6) : (qm.2.1, 0) = FX3_told st lo th bm km qm bd ym p0 := by
  exact (((((((if_neg c6_0).trans (if_neg c6_1)).trans (if_neg c6_2)).trans (if_neg c6_3)).trans (if_neg c6_4)).trans (if_neg c6_5)).trans (if_pos c6_6)).symm
set_option maxRecDepth 100000 in
theorem plX3_told_8 (st : Int32) (lo : Int32) (th : Int32) (bm : Bm) (km : Rw) (qm : Tk) (bd : Int32) (ym : Tk) (p0 : Int32) (c6_0 : ¬ (p0 = 0)) (c6_1 : ¬ (p0 = 1)) (c6_2 : ¬ (p0 = 2)) (c6_3 : ¬ (p0 = 3)) (c6_4 : ¬ (p0 = 4)) (c6_5 : ¬ (p0 = 5)) (c6_6 : ¬ (p0 = 6)) (c6_7 : p0 = 7) (c_99 : bd = 0) : (0, 0) = FX3_told st lo th bm km qm bd ym p0 := by
  exact (((((((((if_neg c6_0).trans (if_neg c6_1)).trans (if_neg c6_2)).trans (if_neg c6_3)).trans (if_neg c6_4)).trans (if_neg c6_5)).trans (if_neg c6_6)).trans (if_pos c6_7)).trans (if_pos c_99)).symm
set_option maxRecDepth 100000 in
theorem plX3_told_9 (st : Int32) (lo : Int32) (th : Int32) (bm : Bm) (km : Rw) (qm : Tk) (bd : Int32) (ym : Tk) (p0 : Int32) (c6_0 : ¬ (p0 = 0)) (c6_1 : ¬ (p0 = 1)) (c6_2 : ¬ (p0 = 2)) (c6_3 : ¬ (p0 = 3)) (c6_4 : ¬ (p0 = 4)) (c6_5 : ¬ (p0 = 5)) (c6_6 : ¬ (p0 = 6)) (c6_7 : p0 = 7) (c_99 : ¬ (bd = 0)) : (1, 0) = FX3_told st lo th bm km qm bd ym p0 := by
  exact (((((((((if_neg c6_0).trans (if_neg c6_1)).trans (if_neg c6_2)).trans (if_neg c6_3)).trans (if_neg c6_4)).trans (if_neg c6_5)).trans (if_neg c6_6)).trans (if_pos c6_7)).trans (if_neg c_99)).symm
set_option maxRecDepth 100000 in
theorem plX3_told_10 (st : Int32) (lo : Int32) (th : Int32) (bm : Bm) (km : Rw) (qm : Tk) (bd : Int32) (ym : Tk) (p0 : Int32) (c6_0 : ¬ (p0 = 0)) (c6_1 : ¬ (p0 = 1)) (c6_2 : ¬ (p0 = 2)) (c6_3 : ¬ (p0 = 3)) (c6_4 : ¬ (p0 = 4)) (c6_5 : ¬ (p0 = 5)) (c6_6 : ¬ (p0 = 6)) (c6_7 : ¬ (p0 = 7)) : ((-1), 0) = FX3_told st lo th bm km qm bd ym p0 := by
  exact ((((((((if_neg c6_0).trans (if_neg c6_1)).trans (if_neg c6_2)).trans (if_neg c6_3)).trans (if_neg c6_4)).trans (if_neg c6_5)).trans (if_neg c6_6)).trans (if_neg c6_7)).symm
set_option maxHeartbeats 4000000 in
set_option maxRecDepth 100000 in
theorem mX3_told (l : Launch) (dC : Nat → ClassId) (dI : Nat → Nat → Nat) (cZ cK : ClassId) (om ob ok : Nat) (sz : Nat) (st : Int32) (lo : Int32) (th : Int32) (bm : Bm) (km : Rw) (qm : Tk) (bd : Int32) (ym : Tk) (p0 : Int32) : Met l yX3_told (Cond.code yX3_told cX3_told 2 (some .int) :: G) ({ frames := 0, cells := 0, slots := 0, locals := 0 } : Room) (va_Pc [.ref om, .int p0] (fun U => U.heap.size = sz ∧ va_P (dC, dI) vwCl [(om, .inr (3, [.int th, .int st, .int lo, .ref ob, .int bm.2.1, .int bm.2.2.1, .int bm.2.2.2.1, .int bm.2.2.2.2, .ref ok, .int km.2, .int qm.1, .int qm.2.1, .int qm.2.2.1, .int qm.2.2.2, .int bd, .int ym.1, .int ym.2.1, .int ym.2.2.1, .int ym.2.2.2])), (ob, .inl (cZ, 5200, .inl bm.1)), (ok, .inl (cK, 600, .inl km.1))] U.heap ∧ va_K (dC, dI) vwCl [(cZ, .boolean), (cK, .int)] U ∧ va_D (fun _ => True) [(om, .inr (3, [.int th, .int st, .int lo, .ref ob, .int bm.2.1, .int bm.2.2.1, .int bm.2.2.2.1, .int bm.2.2.2.2, .ref ok, .int km.2, .int qm.1, .int qm.2.1, .int qm.2.2.1, .int qm.2.2.2, .int bd, .int ym.1, .int ym.2.1, .int ym.2.2.1, .int ym.2.2.2])), (ob, .inl (cZ, 5200, .inl bm.1)), (ok, .inl (cK, 600, .inl km.1))] ∧ zOk U)) (va_Qi (fun (r : Int32) (u : Int32) => (r, u) = (FX3_told st lo th bm km qm bd ym p0)) (fun (u : Int32) (t : State) => va_P (dC, dI) vwCl [(om, .inr (3, [.int u, .int st, .int lo, .ref ob, .int bm.2.1, .int bm.2.2.1, .int bm.2.2.2.1, .int bm.2.2.2.2, .ref ok, .int km.2, .int qm.1, .int qm.2.1, .int qm.2.2.1, .int qm.2.2.2, .int bd, .int ym.1, .int ym.2.1, .int ym.2.2.1, .int ym.2.2.2])), (ob, .inl (cZ, 5200, .inl bm.1)), (ok, .inl (cK, 600, .inl km.1))] t.heap ∧ va_D (va_A [(om, .inr (3, [.int th, .int st, .int lo, .ref ob, .int bm.2.1, .int bm.2.2.1, .int bm.2.2.2.1, .int bm.2.2.2.2, .ref ok, .int km.2, .int qm.1, .int qm.2.1, .int qm.2.2.1, .int qm.2.2.2, .int bd, .int ym.1, .int ym.2.1, .int ym.2.2.1, .int ym.2.2.2])), (ob, .inl (cZ, 5200, .inl bm.1)), (ok, .inl (cK, 600, .inl km.1))] sz) [(om, .inr (3, [.int u, .int st, .int lo, .ref ob, .int bm.2.1, .int bm.2.2.1, .int bm.2.2.2.1, .int bm.2.2.2.2, .ref ok, .int km.2, .int qm.1, .int qm.2.1, .int qm.2.2.1, .int qm.2.2.2, .int bd, .int ym.1, .int ym.2.1, .int ym.2.2.1, .int ym.2.2.2])), (ob, .inl (cZ, 5200, .inl bm.1)), (ok, .inl (cK, 600, .inl km.1))]) (va_A [(om, .inr (3, [.int th, .int st, .int lo, .ref ob, .int bm.2.1, .int bm.2.2.1, .int bm.2.2.2.1, .int bm.2.2.2.2, .ref ok, .int km.2, .int qm.1, .int qm.2.1, .int qm.2.2.1, .int qm.2.2.2, .int bd, .int ym.1, .int ym.2.1, .int ym.2.2.1, .int ym.2.2.2])), (ob, .inl (cZ, 5200, .inl bm.1)), (ok, .inl (cK, 600, .inl km.1))] sz)) 0 0 (va_A [(om, .inr (3, [.int th, .int st, .int lo, .ref ob, .int bm.2.1, .int bm.2.2.1, .int bm.2.2.2.1, .int bm.2.2.2.2, .ref ok, .int km.2, .int qm.1, .int qm.2.1, .int qm.2.2.1, .int qm.2.2.2, .int bd, .int ym.1, .int ym.2.1, .int ym.2.2.1, .int ym.2.2.2])), (ob, .inl (cZ, 5200, .inl bm.1)), (ok, .inl (cK, 600, .inl km.1))] sz) := by
  refine Met.ofW (cc := cX3_told) (maxL := 2) (ret := (some .int)) (by decide) rfl ?_
  intro p e s m args below meth c s₁ B hml hv
  obtain ⟨rfl, hsz, hP, hK, hD0, hZ⟩ := hv
  have hx := B.exec
  have hb := B.bytes
  have hr := B.returns
  have hts : ∀ w ∈ G, w.before [.ref om, .int p0].toArray s = true := fun w h => atoms_spec (ws := (Cond.code yX3_told cX3_told 2 (some .int) :: G)) B.pre w (List.mem_cons_of_mem _ h)
  have hown : s.vm.findClass RX3 = some m.cls := findClass_of_methodNamed B.named
  have hlocks := B.notSynchronized
  subst hsz
  have hD := hD0.self (sz := s.heap.size)
  generalize hAe : va_A [(om, .inr (3, [.int th, .int st, .int lo, .ref ob, .int bm.2.1, .int bm.2.2.1, .int bm.2.2.2.1, .int bm.2.2.2.2, .ref ok, .int km.2, .int qm.1, .int qm.2.1, .int qm.2.2.1, .int qm.2.2.2, .int bd, .int ym.1, .int ym.2.1, .int ym.2.2.1, .int ym.2.2.2])), (ob, .inl (cZ, 5200, .inl bm.1)), (ok, .inl (cK, 600, .inl km.1))] s.heap.size = A at hD ⊢
  have hA : ∀ q : Nat, s.heap.size ≤ q → A q := fun q h => by rw [← hAe]; exact Or.inr h
  have hS : va_S A s.heap s.heap [] := va_S.rf
  have hP : va_P (dC, dI) vwCl [(om, .inr (3, [.int th, .int st, .int lo, .ref ob, .int bm.2.1, .int bm.2.2.1, .int bm.2.2.2.1, .int bm.2.2.2.2, .ref ok, .int km.2, .int qm.1, .int qm.2.1, .int qm.2.2.1, .int qm.2.2.2, .int bd, .int ym.1, .int ym.2.1, .int ym.2.2.1, .int ym.2.2.2])), (ob, .inl (cZ, 5200, .inl bm.1)), (ok, .inl (cK, 600, .inl km.1))] s.heap := hP
  have hl := lv_entry ([.ref om, .int p0]) (n := 2) (Nat.le_of_ble_eq_true rfl)
  rw [lg_entry_eq]
  generalize (lg_sl ([.ref om, .int p0]) ++ List.replicate (2 - (lg_sl ([.ref om, .int p0])).length) Slot.unset).toArray = ls at hl ⊢
  have hl : lv_has ls 2 [(0, .ref om), (1, .int p0)] := hl
  refine lv_aload_n hx hb dX3_told_0 rfl (lv_at hl 0 rfl) ?_
  refine lv_iconst (v := 0) hx hb dX3_told_1 (by decide) ?_
  refine va_put (D := (dC, dI)) (ci := 3) (v := .int 0) (ty := .int) (C := RX3) (T := TX3) (N := 19) hx hb hts inGX3 tyX3 tyX3_ok nmX3 hown hK hP hD hS 0 rfl rfl 0 (by decide) (hts _ wd437) (fun _ h9 => h9) rfl (by decide +kernel) rfl rfl (Nat.le_of_ble_eq_true rfl) dX3_told_2 (fun H locs hP hD hS => ?_)
  have hP : va_P (dC, dI) vwCl [(om, .inr (3, [.int 0, .int st, .int lo, .ref ob, .int bm.2.1, .int bm.2.2.1, .int bm.2.2.2.1, .int bm.2.2.2.2, .ref ok, .int km.2, .int qm.1, .int qm.2.1, .int qm.2.2.1, .int qm.2.2.2, .int bd, .int ym.1, .int ym.2.1, .int ym.2.2.1, .int ym.2.2.2])), (ob, .inl (cZ, 5200, .inl bm.1)), (ok, .inl (cK, 600, .inl km.1))] H := hP
  have hD : va_D A [(om, .inr (3, [.int 0, .int st, .int lo, .ref ob, .int bm.2.1, .int bm.2.2.1, .int bm.2.2.2.1, .int bm.2.2.2.2, .ref ok, .int km.2, .int qm.1, .int qm.2.1, .int qm.2.2.1, .int qm.2.2.2, .int bd, .int ym.1, .int ym.2.1, .int ym.2.2.1, .int ym.2.2.2])), (ob, .inl (cZ, 5200, .inl bm.1)), (ok, .inl (cK, 600, .inl km.1))] := hD
  refine lv_iload_n hx hb dX3_told_5 rfl (lv_at hl 1 rfl) ?_
  by_cases c6_0 : p0 = 0
  · refine lv_tableIn (off := 46) (tgt := 52) hx hb dX3_told_6 (by rw [c6_0]; decide) (by rw [c6_0]; decide) (by rw [c6_0]; decide) (by decide) ?_
    refine lv_aload_n hx hb dX3_told_52 rfl (lv_at hl 0 rfl) ?_
    refine va_get (D := (dC, dI)) (ci := 3) (v := .int st) (C := RX3) (T := TX3) (N := 19) hx hb hts inGX3 hown hK hP 0 rfl rfl 1 (by decide) (hts _ wd438) (fun _ h9 => h9) rfl dX3_told_53 ?_
    have hP9 := hP.sub (ws' := [(om, .inr (3, [.int 0, .int st, .int lo, .ref ob, .int bm.2.1, .int bm.2.2.1, .int bm.2.2.2.1, .int bm.2.2.2.2, .ref ok, .int km.2, .int qm.1, .int qm.2.1, .int qm.2.2.1, .int qm.2.2.2, .int bd, .int ym.1, .int ym.2.1, .int ym.2.2.1, .int ym.2.2.2])), (ob, .inl (cZ, 5200, .inl bm.1)), (ok, .inl (cK, 600, .inl km.1))]) [0, 1, 2] rfl
    have hD9 := hD.sub (ws' := [(om, .inr (3, [.int 0, .int st, .int lo, .ref ob, .int bm.2.1, .int bm.2.2.1, .int bm.2.2.2.1, .int bm.2.2.2.2, .ref ok, .int km.2, .int qm.1, .int qm.2.1, .int qm.2.2.1, .int qm.2.2.2, .int bd, .int ym.1, .int ym.2.1, .int ym.2.2.1, .int ym.2.2.2])), (ob, .inl (cZ, 5200, .inl bm.1)), (ok, .inl (cK, 600, .inl km.1))]) [0, 1, 2] (by decide) rfl
    exact W.iret (v := st) hx hb hr (fun t ht hW => ⟨⟨st, 0, rfl, (plX3_told_0 st lo th bm km qm bd ym p0 c6_0), by rw [ht]; exact hP9, hD9⟩, hS.F ht⟩) hS.2.2 dX3_told_56
  · by_cases c6_1 : p0 = 1
    · refine lv_tableIn (off := 51) (tgt := 57) hx hb dX3_told_6 (by rw [c6_1]; decide) (by rw [c6_1]; decide) (by rw [c6_1]; decide) (by decide) ?_
      refine lv_aload_n hx hb dX3_told_57 rfl (lv_at hl 0 rfl) ?_
      refine va_get (D := (dC, dI)) (ci := 3) (v := .int lo) (C := RX3) (T := TX3) (N := 19) hx hb hts inGX3 hown hK hP 0 rfl rfl 2 (by decide) (hts _ wd439) (fun _ h9 => h9) rfl dX3_told_58 ?_
      refine lv_if_eq (tgt := 68) hx hb dX3_told_61 (by decide) (fun c_61 => ?_) (fun c_61 => ?_)
      · refine lv_iconst (v := 0) hx hb dX3_told_68 (by decide) ?_
        have hP9 := hP.sub (ws' := [(om, .inr (3, [.int 0, .int st, .int lo, .ref ob, .int bm.2.1, .int bm.2.2.1, .int bm.2.2.2.1, .int bm.2.2.2.2, .ref ok, .int km.2, .int qm.1, .int qm.2.1, .int qm.2.2.1, .int qm.2.2.2, .int bd, .int ym.1, .int ym.2.1, .int ym.2.2.1, .int ym.2.2.2])), (ob, .inl (cZ, 5200, .inl bm.1)), (ok, .inl (cK, 600, .inl km.1))]) [0, 1, 2] rfl
        have hD9 := hD.sub (ws' := [(om, .inr (3, [.int 0, .int st, .int lo, .ref ob, .int bm.2.1, .int bm.2.2.1, .int bm.2.2.2.1, .int bm.2.2.2.2, .ref ok, .int km.2, .int qm.1, .int qm.2.1, .int qm.2.2.1, .int qm.2.2.2, .int bd, .int ym.1, .int ym.2.1, .int ym.2.2.1, .int ym.2.2.2])), (ob, .inl (cZ, 5200, .inl bm.1)), (ok, .inl (cK, 600, .inl km.1))]) [0, 1, 2] (by decide) rfl
        exact W.iret (v := 0) hx hb hr (fun t ht hW => ⟨⟨0, 0, rfl, (plX3_told_1 st lo th bm km qm bd ym p0 c6_0 c6_1 c_61), by rw [ht]; exact hP9, hD9⟩, hS.F ht⟩) hS.2.2 dX3_told_69
      · refine lv_iconst (v := 1) hx hb dX3_told_64 (by decide) ?_
        refine lv_goto (tgt := 69) hx hb dX3_told_65 (by decide) ?_
        have hP9 := hP.sub (ws' := [(om, .inr (3, [.int 0, .int st, .int lo, .ref ob, .int bm.2.1, .int bm.2.2.1, .int bm.2.2.2.1, .int bm.2.2.2.2, .ref ok, .int km.2, .int qm.1, .int qm.2.1, .int qm.2.2.1, .int qm.2.2.2, .int bd, .int ym.1, .int ym.2.1, .int ym.2.2.1, .int ym.2.2.2])), (ob, .inl (cZ, 5200, .inl bm.1)), (ok, .inl (cK, 600, .inl km.1))]) [0, 1, 2] rfl
        have hD9 := hD.sub (ws' := [(om, .inr (3, [.int 0, .int st, .int lo, .ref ob, .int bm.2.1, .int bm.2.2.1, .int bm.2.2.2.1, .int bm.2.2.2.2, .ref ok, .int km.2, .int qm.1, .int qm.2.1, .int qm.2.2.1, .int qm.2.2.2, .int bd, .int ym.1, .int ym.2.1, .int ym.2.2.1, .int ym.2.2.2])), (ob, .inl (cZ, 5200, .inl bm.1)), (ok, .inl (cK, 600, .inl km.1))]) [0, 1, 2] (by decide) rfl
        exact W.iret (v := 1) hx hb hr (fun t ht hW => ⟨⟨1, 0, rfl, (plX3_told_2 st lo th bm km qm bd ym p0 c6_0 c6_1 c_61), by rw [ht]; exact hP9, hD9⟩, hS.F ht⟩) hS.2.2 dX3_told_69
    · by_cases c6_2 : p0 = 2
      · refine lv_tableIn (off := 64) (tgt := 70) hx hb dX3_told_6 (by rw [c6_2]; decide) (by rw [c6_2]; decide) (by rw [c6_2]; decide) (by decide) ?_
        refine lv_aload_n hx hb dX3_told_70 rfl (lv_at hl 0 rfl) ?_
        refine va_get (D := (dC, dI)) (ci := 3) (v := .int bm.2.1) (C := RX3) (T := TX3) (N := 19) hx hb hts inGX3 hown hK hP 0 rfl rfl 4 (by decide) (hts _ wd441) (fun _ h9 => h9) rfl dX3_told_71 ?_
        have hP9 := hP.sub (ws' := [(om, .inr (3, [.int 0, .int st, .int lo, .ref ob, .int bm.2.1, .int bm.2.2.1, .int bm.2.2.2.1, .int bm.2.2.2.2, .ref ok, .int km.2, .int qm.1, .int qm.2.1, .int qm.2.2.1, .int qm.2.2.2, .int bd, .int ym.1, .int ym.2.1, .int ym.2.2.1, .int ym.2.2.2])), (ob, .inl (cZ, 5200, .inl bm.1)), (ok, .inl (cK, 600, .inl km.1))]) [0, 1, 2] rfl
        have hD9 := hD.sub (ws' := [(om, .inr (3, [.int 0, .int st, .int lo, .ref ob, .int bm.2.1, .int bm.2.2.1, .int bm.2.2.2.1, .int bm.2.2.2.2, .ref ok, .int km.2, .int qm.1, .int qm.2.1, .int qm.2.2.1, .int qm.2.2.2, .int bd, .int ym.1, .int ym.2.1, .int ym.2.2.1, .int ym.2.2.2])), (ob, .inl (cZ, 5200, .inl bm.1)), (ok, .inl (cK, 600, .inl km.1))]) [0, 1, 2] (by decide) rfl
        exact W.iret (v := bm.2.1) hx hb hr (fun t ht hW => ⟨⟨bm.2.1, 0, rfl, (plX3_told_3 st lo th bm km qm bd ym p0 c6_0 c6_1 c6_2), by rw [ht]; exact hP9, hD9⟩, hS.F ht⟩) hS.2.2 dX3_told_74
      · by_cases c6_3 : p0 = 3
        · refine lv_tableIn (off := 69) (tgt := 75) hx hb dX3_told_6 (by rw [c6_3]; decide) (by rw [c6_3]; decide) (by rw [c6_3]; decide) (by decide) ?_
          refine lv_aload_n hx hb dX3_told_75 rfl (lv_at hl 0 rfl) ?_
          refine va_get (D := (dC, dI)) (ci := 3) (v := .int bm.2.2.1) (C := RX3) (T := TX3) (N := 19) hx hb hts inGX3 hown hK hP 0 rfl rfl 5 (by decide) (hts _ wd442) (fun _ h9 => h9) rfl dX3_told_76 ?_
          have hP9 := hP.sub (ws' := [(om, .inr (3, [.int 0, .int st, .int lo, .ref ob, .int bm.2.1, .int bm.2.2.1, .int bm.2.2.2.1, .int bm.2.2.2.2, .ref ok, .int km.2, .int qm.1, .int qm.2.1, .int qm.2.2.1, .int qm.2.2.2, .int bd, .int ym.1, .int ym.2.1, .int ym.2.2.1, .int ym.2.2.2])), (ob, .inl (cZ, 5200, .inl bm.1)), (ok, .inl (cK, 600, .inl km.1))]) [0, 1, 2] rfl
          have hD9 := hD.sub (ws' := [(om, .inr (3, [.int 0, .int st, .int lo, .ref ob, .int bm.2.1, .int bm.2.2.1, .int bm.2.2.2.1, .int bm.2.2.2.2, .ref ok, .int km.2, .int qm.1, .int qm.2.1, .int qm.2.2.1, .int qm.2.2.2, .int bd, .int ym.1, .int ym.2.1, .int ym.2.2.1, .int ym.2.2.2])), (ob, .inl (cZ, 5200, .inl bm.1)), (ok, .inl (cK, 600, .inl km.1))]) [0, 1, 2] (by decide) rfl
          exact W.iret (v := bm.2.2.1) hx hb hr (fun t ht hW => ⟨⟨bm.2.2.1, 0, rfl, (plX3_told_4 st lo th bm km qm bd ym p0 c6_0 c6_1 c6_2 c6_3), by rw [ht]; exact hP9, hD9⟩, hS.F ht⟩) hS.2.2 dX3_told_79
        · by_cases c6_4 : p0 = 4
          · refine lv_tableIn (off := 74) (tgt := 80) hx hb dX3_told_6 (by rw [c6_4]; decide) (by rw [c6_4]; decide) (by rw [c6_4]; decide) (by decide) ?_
            refine lv_aload_n hx hb dX3_told_80 rfl (lv_at hl 0 rfl) ?_
            refine va_get (D := (dC, dI)) (ci := 3) (v := .int km.2) (C := RX3) (T := TX3) (N := 19) hx hb hts inGX3 hown hK hP 0 rfl rfl 9 (by decide) (hts _ wd446) (fun _ h9 => h9) rfl dX3_told_81 ?_
            have hP9 := hP.sub (ws' := [(om, .inr (3, [.int 0, .int st, .int lo, .ref ob, .int bm.2.1, .int bm.2.2.1, .int bm.2.2.2.1, .int bm.2.2.2.2, .ref ok, .int km.2, .int qm.1, .int qm.2.1, .int qm.2.2.1, .int qm.2.2.2, .int bd, .int ym.1, .int ym.2.1, .int ym.2.2.1, .int ym.2.2.2])), (ob, .inl (cZ, 5200, .inl bm.1)), (ok, .inl (cK, 600, .inl km.1))]) [0, 1, 2] rfl
            have hD9 := hD.sub (ws' := [(om, .inr (3, [.int 0, .int st, .int lo, .ref ob, .int bm.2.1, .int bm.2.2.1, .int bm.2.2.2.1, .int bm.2.2.2.2, .ref ok, .int km.2, .int qm.1, .int qm.2.1, .int qm.2.2.1, .int qm.2.2.2, .int bd, .int ym.1, .int ym.2.1, .int ym.2.2.1, .int ym.2.2.2])), (ob, .inl (cZ, 5200, .inl bm.1)), (ok, .inl (cK, 600, .inl km.1))]) [0, 1, 2] (by decide) rfl
            exact W.iret (v := km.2) hx hb hr (fun t ht hW => ⟨⟨km.2, 0, rfl, (plX3_told_5 st lo th bm km qm bd ym p0 c6_0 c6_1 c6_2 c6_3 c6_4), by rw [ht]; exact hP9, hD9⟩, hS.F ht⟩) hS.2.2 dX3_told_84
          · by_cases c6_5 : p0 = 5
            · refine lv_tableIn (off := 79) (tgt := 85) hx hb dX3_told_6 (by rw [c6_5]; decide) (by rw [c6_5]; decide) (by rw [c6_5]; decide) (by decide) ?_
              refine lv_aload_n hx hb dX3_told_85 rfl (lv_at hl 0 rfl) ?_
              refine va_get (D := (dC, dI)) (ci := 3) (v := .int qm.1) (C := RX3) (T := TX3) (N := 19) hx hb hts inGX3 hown hK hP 0 rfl rfl 10 (by decide) (hts _ wd447) (fun _ h9 => h9) rfl dX3_told_86 ?_
              have hP9 := hP.sub (ws' := [(om, .inr (3, [.int 0, .int st, .int lo, .ref ob, .int bm.2.1, .int bm.2.2.1, .int bm.2.2.2.1, .int bm.2.2.2.2, .ref ok, .int km.2, .int qm.1, .int qm.2.1, .int qm.2.2.1, .int qm.2.2.2, .int bd, .int ym.1, .int ym.2.1, .int ym.2.2.1, .int ym.2.2.2])), (ob, .inl (cZ, 5200, .inl bm.1)), (ok, .inl (cK, 600, .inl km.1))]) [0, 1, 2] rfl
              have hD9 := hD.sub (ws' := [(om, .inr (3, [.int 0, .int st, .int lo, .ref ob, .int bm.2.1, .int bm.2.2.1, .int bm.2.2.2.1, .int bm.2.2.2.2, .ref ok, .int km.2, .int qm.1, .int qm.2.1, .int qm.2.2.1, .int qm.2.2.2, .int bd, .int ym.1, .int ym.2.1, .int ym.2.2.1, .int ym.2.2.2])), (ob, .inl (cZ, 5200, .inl bm.1)), (ok, .inl (cK, 600, .inl km.1))]) [0, 1, 2] (by decide) rfl
              exact W.iret (v := qm.1) hx hb hr (fun t ht hW => ⟨⟨qm.1, 0, rfl, (plX3_told_6 st lo th bm km qm bd ym p0 c6_0 c6_1 c6_2 c6_3 c6_4 c6_5), by rw [ht]; exact hP9, hD9⟩, hS.F ht⟩) hS.2.2 dX3_told_89
            · by_cases c6_6 : p0 = 6
              · refine lv_tableIn (off := 84) (tgt := 90) hx hb dX3_told_6 (by rw [c6_6]; decide) (by rw [c6_6]; decide) (by rw [c6_6]; decide) (by decide) ?_
                refine lv_aload_n hx hb dX3_told_90 rfl (lv_at hl 0 rfl) ?_
                refine va_get (D := (dC, dI)) (ci := 3) (v := .int qm.2.1) (C := RX3) (T := TX3) (N := 19) hx hb hts inGX3 hown hK hP 0 rfl rfl 11 (by decide) (hts _ wd448) (fun _ h9 => h9) rfl dX3_told_91 ?_
                have hP9 := hP.sub (ws' := [(om, .inr (3, [.int 0, .int st, .int lo, .ref ob, .int bm.2.1, .int bm.2.2.1, .int bm.2.2.2.1, .int bm.2.2.2.2, .ref ok, .int km.2, .int qm.1, .int qm.2.1, .int qm.2.2.1, .int qm.2.2.2, .int bd, .int ym.1, .int ym.2.1, .int ym.2.2.1, .int ym.2.2.2])), (ob, .inl (cZ, 5200, .inl bm.1)), (ok, .inl (cK, 600, .inl km.1))]) [0, 1, 2] rfl
                have hD9 := hD.sub (ws' := [(om, .inr (3, [.int 0, .int st, .int lo, .ref ob, .int bm.2.1, .int bm.2.2.1, .int bm.2.2.2.1, .int bm.2.2.2.2, .ref ok, .int km.2, .int qm.1, .int qm.2.1, .int qm.2.2.1, .int qm.2.2.2, .int bd, .int ym.1, .int ym.2.1, .int ym.2.2.1, .int ym.2.2.2])), (ob, .inl (cZ, 5200, .inl bm.1)), (ok, .inl (cK, 600, .inl km.1))]) [0, 1, 2] (by decide) rfl
                exact W.iret (v := qm.2.1) hx hb hr (fun t ht hW => ⟨⟨qm.2.1, 0, rfl, (plX3_told_7 st lo th bm km qm bd ym p0 c6_0 c6_1 c6_2 c6_3 c6_4 c6_5 c6_6), by rw [ht]; exact hP9, hD9⟩, hS.F ht⟩) hS.2.2 dX3_told_94
              · by_cases c6_7 : p0 = 7
                · refine lv_tableIn (off := 89) (tgt := 95) hx hb dX3_told_6 (by rw [c6_7]; decide) (by rw [c6_7]; decide) (by rw [c6_7]; decide) (by decide) ?_
                  refine lv_aload_n hx hb dX3_told_95 rfl (lv_at hl 0 rfl) ?_
                  refine va_get (D := (dC, dI)) (ci := 3) (v := .int bd) (C := RX3) (T := TX3) (N := 19) hx hb hts inGX3 hown hK hP 0 rfl rfl 14 (by decide) (hts _ wd451) (fun _ h9 => h9) rfl dX3_told_96 ?_
                  refine lv_if_eq (tgt := 106) hx hb dX3_told_99 (by decide) (fun c_99 => ?_) (fun c_99 => ?_)
                  · refine lv_iconst (v := 0) hx hb dX3_told_106 (by decide) ?_
                    have hP9 := hP.sub (ws' := [(om, .inr (3, [.int 0, .int st, .int lo, .ref ob, .int bm.2.1, .int bm.2.2.1, .int bm.2.2.2.1, .int bm.2.2.2.2, .ref ok, .int km.2, .int qm.1, .int qm.2.1, .int qm.2.2.1, .int qm.2.2.2, .int bd, .int ym.1, .int ym.2.1, .int ym.2.2.1, .int ym.2.2.2])), (ob, .inl (cZ, 5200, .inl bm.1)), (ok, .inl (cK, 600, .inl km.1))]) [0, 1, 2] rfl
                    have hD9 := hD.sub (ws' := [(om, .inr (3, [.int 0, .int st, .int lo, .ref ob, .int bm.2.1, .int bm.2.2.1, .int bm.2.2.2.1, .int bm.2.2.2.2, .ref ok, .int km.2, .int qm.1, .int qm.2.1, .int qm.2.2.1, .int qm.2.2.2, .int bd, .int ym.1, .int ym.2.1, .int ym.2.2.1, .int ym.2.2.2])), (ob, .inl (cZ, 5200, .inl bm.1)), (ok, .inl (cK, 600, .inl km.1))]) [0, 1, 2] (by decide) rfl
                    exact W.iret (v := 0) hx hb hr (fun t ht hW => ⟨⟨0, 0, rfl, (plX3_told_8 st lo th bm km qm bd ym p0 c6_0 c6_1 c6_2 c6_3 c6_4 c6_5 c6_6 c6_7 c_99), by rw [ht]; exact hP9, hD9⟩, hS.F ht⟩) hS.2.2 dX3_told_107
                  · refine lv_iconst (v := 1) hx hb dX3_told_102 (by decide) ?_
                    refine lv_goto (tgt := 107) hx hb dX3_told_103 (by decide) ?_
                    have hP9 := hP.sub (ws' := [(om, .inr (3, [.int 0, .int st, .int lo, .ref ob, .int bm.2.1, .int bm.2.2.1, .int bm.2.2.2.1, .int bm.2.2.2.2, .ref ok, .int km.2, .int qm.1, .int qm.2.1, .int qm.2.2.1, .int qm.2.2.2, .int bd, .int ym.1, .int ym.2.1, .int ym.2.2.1, .int ym.2.2.2])), (ob, .inl (cZ, 5200, .inl bm.1)), (ok, .inl (cK, 600, .inl km.1))]) [0, 1, 2] rfl
                    have hD9 := hD.sub (ws' := [(om, .inr (3, [.int 0, .int st, .int lo, .ref ob, .int bm.2.1, .int bm.2.2.1, .int bm.2.2.2.1, .int bm.2.2.2.2, .ref ok, .int km.2, .int qm.1, .int qm.2.1, .int qm.2.2.1, .int qm.2.2.2, .int bd, .int ym.1, .int ym.2.1, .int ym.2.2.1, .int ym.2.2.2])), (ob, .inl (cZ, 5200, .inl bm.1)), (ok, .inl (cK, 600, .inl km.1))]) [0, 1, 2] (by decide) rfl
                    exact W.iret (v := 1) hx hb hr (fun t ht hW => ⟨⟨1, 0, rfl, (plX3_told_9 st lo th bm km qm bd ym p0 c6_0 c6_1 c6_2 c6_3 c6_4 c6_5 c6_6 c6_7 c_99), by rw [ht]; exact hP9, hD9⟩, hS.F ht⟩) hS.2.2 dX3_told_107
                · refine lv_tableOut (tgt := 108) hx hb dX3_told_6 (by have q0 := lv_neT c6_0 (a := 0) (by decide); have q1 := lv_neT c6_1 (a := 1) (by decide); have q2 := lv_neT c6_2 (a := 2) (by decide); have q3 := lv_neT c6_3 (a := 3) (by decide); have q4 := lv_neT c6_4 (a := 4) (by decide); have q5 := lv_neT c6_5 (a := 5) (by decide); have q6 := lv_neT c6_6 (a := 6) (by decide); have q7 := lv_neT c6_7 (a := 7) (by decide); omega) (by decide) ?_
                  refine lv_iconst (v := (-1)) hx hb dX3_told_108 (by decide) ?_
                  have hP9 := hP.sub (ws' := [(om, .inr (3, [.int 0, .int st, .int lo, .ref ob, .int bm.2.1, .int bm.2.2.1, .int bm.2.2.2.1, .int bm.2.2.2.2, .ref ok, .int km.2, .int qm.1, .int qm.2.1, .int qm.2.2.1, .int qm.2.2.2, .int bd, .int ym.1, .int ym.2.1, .int ym.2.2.1, .int ym.2.2.2])), (ob, .inl (cZ, 5200, .inl bm.1)), (ok, .inl (cK, 600, .inl km.1))]) [0, 1, 2] rfl
                  have hD9 := hD.sub (ws' := [(om, .inr (3, [.int 0, .int st, .int lo, .ref ob, .int bm.2.1, .int bm.2.2.1, .int bm.2.2.2.1, .int bm.2.2.2.2, .ref ok, .int km.2, .int qm.1, .int qm.2.1, .int qm.2.2.1, .int qm.2.2.2, .int bd, .int ym.1, .int ym.2.1, .int ym.2.2.1, .int ym.2.2.2])), (ob, .inl (cZ, 5200, .inl bm.1)), (ok, .inl (cK, 600, .inl km.1))]) [0, 1, 2] (by decide) rfl
                  exact W.iret (v := (-1)) hx hb hr (fun t ht hW => ⟨⟨(-1), 0, rfl, (plX3_told_10 st lo th bm km qm bd ym p0 c6_0 c6_1 c6_2 c6_3 c6_4 c6_5 c6_6 c6_7), by rw [ht]; exact hP9, hD9⟩, hS.F ht⟩) hS.2.2 dX3_told_109
def FX3_clear (st : Int32) (lo : Int32) (th : Int32) (bm : Bm) (km : Rw) (qm : Tk) (bd : Int32) (ym : Tk) : Int32 × Bm × Rw × Tk × Int32 :=
  (0, (bm.1, 0, 0, 0, 0), (km.1, 0), (0, 0, 0, 0), 0)
set_option maxRecDepth 100000 in
theorem plX3_clear_0 (st : Int32) (lo : Int32) (th : Int32) (bm : Bm) (km : Rw) (qm : Tk) (bd : Int32) (ym : Tk)  : (0, (bm.1, 0, 0, 0, 0), (km.1, 0), (0, 0, 0, 0), 0) = FX3_clear st lo th bm km qm bd ym := by
  exact rfl
set_option maxHeartbeats 4000000 in
set_option maxRecDepth 100000 in
theorem mX3_clear (l : Launch) (dC : Nat → ClassId) (dI : Nat → Nat → Nat) (cZ cK : ClassId) (om ob ok : Nat) (sz : Nat) (st : Int32) (lo : Int32) (th : Int32) (bm : Bm) (km : Rw) (qm : Tk) (bd : Int32) (ym : Tk) : Met l yX3_clear (Cond.code yX3_clear cX3_clear 1 none :: G) ({ frames := 0, cells := 0, slots := 0, locals := 0 } : Room) (va_Pc [.ref om] (fun U => U.heap.size = sz ∧ va_P (dC, dI) vwCl [(om, .inr (3, [.int th, .int st, .int lo, .ref ob, .int bm.2.1, .int bm.2.2.1, .int bm.2.2.2.1, .int bm.2.2.2.2, .ref ok, .int km.2, .int qm.1, .int qm.2.1, .int qm.2.2.1, .int qm.2.2.2, .int bd, .int ym.1, .int ym.2.1, .int ym.2.2.1, .int ym.2.2.2])), (ob, .inl (cZ, 5200, .inl bm.1)), (ok, .inl (cK, 600, .inl km.1))] U.heap ∧ va_K (dC, dI) vwCl [(cZ, .boolean), (cK, .int)] U ∧ va_D (fun _ => True) [(om, .inr (3, [.int th, .int st, .int lo, .ref ob, .int bm.2.1, .int bm.2.2.1, .int bm.2.2.2.1, .int bm.2.2.2.2, .ref ok, .int km.2, .int qm.1, .int qm.2.1, .int qm.2.2.1, .int qm.2.2.2, .int bd, .int ym.1, .int ym.2.1, .int ym.2.2.1, .int ym.2.2.2])), (ob, .inl (cZ, 5200, .inl bm.1)), (ok, .inl (cK, 600, .inl km.1))] ∧ zOk U)) (va_Qv (fun (u : Int32 × Bm × Rw × Tk × Int32) => u = (FX3_clear st lo th bm km qm bd ym)) (fun (u : Int32 × Bm × Rw × Tk × Int32) (t : State) => va_P (dC, dI) vwCl [(om, .inr (3, [.int u.1, .int st, .int lo, .ref ob, .int u.2.1.2.1, .int u.2.1.2.2.1, .int u.2.1.2.2.2.1, .int u.2.1.2.2.2.2, .ref ok, .int u.2.2.1.2, .int u.2.2.2.1.1, .int u.2.2.2.1.2.1, .int u.2.2.2.1.2.2.1, .int u.2.2.2.1.2.2.2, .int u.2.2.2.2, .int ym.1, .int ym.2.1, .int ym.2.2.1, .int ym.2.2.2])), (ob, .inl (cZ, 5200, .inl u.2.1.1)), (ok, .inl (cK, 600, .inl u.2.2.1.1))] t.heap ∧ va_D (va_A [(om, .inr (3, [.int th, .int st, .int lo, .ref ob, .int bm.2.1, .int bm.2.2.1, .int bm.2.2.2.1, .int bm.2.2.2.2, .ref ok, .int km.2, .int qm.1, .int qm.2.1, .int qm.2.2.1, .int qm.2.2.2, .int bd, .int ym.1, .int ym.2.1, .int ym.2.2.1, .int ym.2.2.2])), (ob, .inl (cZ, 5200, .inl bm.1)), (ok, .inl (cK, 600, .inl km.1))] sz) [(om, .inr (3, [.int u.1, .int st, .int lo, .ref ob, .int u.2.1.2.1, .int u.2.1.2.2.1, .int u.2.1.2.2.2.1, .int u.2.1.2.2.2.2, .ref ok, .int u.2.2.1.2, .int u.2.2.2.1.1, .int u.2.2.2.1.2.1, .int u.2.2.2.1.2.2.1, .int u.2.2.2.1.2.2.2, .int u.2.2.2.2, .int ym.1, .int ym.2.1, .int ym.2.2.1, .int ym.2.2.2])), (ob, .inl (cZ, 5200, .inl u.2.1.1)), (ok, .inl (cK, 600, .inl u.2.2.1.1))]) (va_A [(om, .inr (3, [.int th, .int st, .int lo, .ref ob, .int bm.2.1, .int bm.2.2.1, .int bm.2.2.2.1, .int bm.2.2.2.2, .ref ok, .int km.2, .int qm.1, .int qm.2.1, .int qm.2.2.1, .int qm.2.2.2, .int bd, .int ym.1, .int ym.2.1, .int ym.2.2.1, .int ym.2.2.2])), (ob, .inl (cZ, 5200, .inl bm.1)), (ok, .inl (cK, 600, .inl km.1))] sz)) 0 0 (va_A [(om, .inr (3, [.int th, .int st, .int lo, .ref ob, .int bm.2.1, .int bm.2.2.1, .int bm.2.2.2.1, .int bm.2.2.2.2, .ref ok, .int km.2, .int qm.1, .int qm.2.1, .int qm.2.2.1, .int qm.2.2.2, .int bd, .int ym.1, .int ym.2.1, .int ym.2.2.1, .int ym.2.2.2])), (ob, .inl (cZ, 5200, .inl bm.1)), (ok, .inl (cK, 600, .inl km.1))] sz) := by
  refine Met.ofW (cc := cX3_clear) (maxL := 1) (ret := none) (by decide) rfl ?_
  intro p e s m args below meth c s₁ B hml hv
  obtain ⟨rfl, hsz, hP, hK, hD0, hZ⟩ := hv
  have hx := B.exec
  have hb := B.bytes
  have hr := B.returns
  have hts : ∀ w ∈ G, w.before [.ref om].toArray s = true := fun w h => atoms_spec (ws := (Cond.code yX3_clear cX3_clear 1 none :: G)) B.pre w (List.mem_cons_of_mem _ h)
  have hown : s.vm.findClass RX3 = some m.cls := findClass_of_methodNamed B.named
  have hlocks := B.notSynchronized
  subst hsz
  have hD := hD0.self (sz := s.heap.size)
  generalize hAe : va_A [(om, .inr (3, [.int th, .int st, .int lo, .ref ob, .int bm.2.1, .int bm.2.2.1, .int bm.2.2.2.1, .int bm.2.2.2.2, .ref ok, .int km.2, .int qm.1, .int qm.2.1, .int qm.2.2.1, .int qm.2.2.2, .int bd, .int ym.1, .int ym.2.1, .int ym.2.2.1, .int ym.2.2.2])), (ob, .inl (cZ, 5200, .inl bm.1)), (ok, .inl (cK, 600, .inl km.1))] s.heap.size = A at hD ⊢
  have hA : ∀ q : Nat, s.heap.size ≤ q → A q := fun q h => by rw [← hAe]; exact Or.inr h
  have hS : va_S A s.heap s.heap [] := va_S.rf
  have hP : va_P (dC, dI) vwCl [(om, .inr (3, [.int th, .int st, .int lo, .ref ob, .int bm.2.1, .int bm.2.2.1, .int bm.2.2.2.1, .int bm.2.2.2.2, .ref ok, .int km.2, .int qm.1, .int qm.2.1, .int qm.2.2.1, .int qm.2.2.2, .int bd, .int ym.1, .int ym.2.1, .int ym.2.2.1, .int ym.2.2.2])), (ob, .inl (cZ, 5200, .inl bm.1)), (ok, .inl (cK, 600, .inl km.1))] s.heap := hP
  have hl := lv_entry ([.ref om]) (n := 1) (Nat.le_of_ble_eq_true rfl)
  rw [lg_entry_eq]
  generalize (lg_sl ([.ref om]) ++ List.replicate (1 - (lg_sl ([.ref om])).length) Slot.unset).toArray = ls at hl ⊢
  have hl : lv_has ls 1 [(0, .ref om)] := hl
  refine lv_aload_n hx hb dX3_clear_0 rfl (lv_at hl 0 rfl) ?_
  refine lv_iconst (v := 0) hx hb dX3_clear_1 (by decide) ?_
  refine va_put (D := (dC, dI)) (ci := 3) (v := .int 0) (ty := .int) (C := RX3) (T := TX3) (N := 19) hx hb hts inGX3 tyX3 tyX3_ok nmX3 hown hK hP hD hS 0 rfl rfl 0 (by decide) (hts _ wd437) (fun _ h9 => h9) rfl (by decide +kernel) rfl rfl (Nat.le_of_ble_eq_true rfl) dX3_clear_2 (fun H locs hP hD hS => ?_)
  have hP : va_P (dC, dI) vwCl [(om, .inr (3, [.int 0, .int st, .int lo, .ref ob, .int bm.2.1, .int bm.2.2.1, .int bm.2.2.2.1, .int bm.2.2.2.2, .ref ok, .int km.2, .int qm.1, .int qm.2.1, .int qm.2.2.1, .int qm.2.2.2, .int bd, .int ym.1, .int ym.2.1, .int ym.2.2.1, .int ym.2.2.2])), (ob, .inl (cZ, 5200, .inl bm.1)), (ok, .inl (cK, 600, .inl km.1))] H := hP
  have hD : va_D A [(om, .inr (3, [.int 0, .int st, .int lo, .ref ob, .int bm.2.1, .int bm.2.2.1, .int bm.2.2.2.1, .int bm.2.2.2.2, .ref ok, .int km.2, .int qm.1, .int qm.2.1, .int qm.2.2.1, .int qm.2.2.2, .int bd, .int ym.1, .int ym.2.1, .int ym.2.2.1, .int ym.2.2.2])), (ob, .inl (cZ, 5200, .inl bm.1)), (ok, .inl (cK, 600, .inl km.1))] := hD
  refine lv_aload_n hx hb dX3_clear_5 rfl (lv_at hl 0 rfl) ?_
  refine lv_iconst (v := 0) hx hb dX3_clear_6 (by decide) ?_
  refine va_put (D := (dC, dI)) (ci := 3) (v := .int 0) (ty := .int) (C := RX3) (T := TX3) (N := 19) hx hb hts inGX3 tyX3 tyX3_ok nmX3 hown hK hP hD hS 0 rfl rfl 4 (by decide) (hts _ wd441) (fun _ h9 => h9) rfl (by decide +kernel) rfl rfl (Nat.le_of_ble_eq_true rfl) dX3_clear_7 (fun H locs hP hD hS => ?_)
  have hP : va_P (dC, dI) vwCl [(om, .inr (3, [.int 0, .int st, .int lo, .ref ob, .int 0, .int bm.2.2.1, .int bm.2.2.2.1, .int bm.2.2.2.2, .ref ok, .int km.2, .int qm.1, .int qm.2.1, .int qm.2.2.1, .int qm.2.2.2, .int bd, .int ym.1, .int ym.2.1, .int ym.2.2.1, .int ym.2.2.2])), (ob, .inl (cZ, 5200, .inl bm.1)), (ok, .inl (cK, 600, .inl km.1))] H := hP
  have hD : va_D A [(om, .inr (3, [.int 0, .int st, .int lo, .ref ob, .int 0, .int bm.2.2.1, .int bm.2.2.2.1, .int bm.2.2.2.2, .ref ok, .int km.2, .int qm.1, .int qm.2.1, .int qm.2.2.1, .int qm.2.2.2, .int bd, .int ym.1, .int ym.2.1, .int ym.2.2.1, .int ym.2.2.2])), (ob, .inl (cZ, 5200, .inl bm.1)), (ok, .inl (cK, 600, .inl km.1))] := hD
  refine lv_aload_n hx hb dX3_clear_10 rfl (lv_at hl 0 rfl) ?_
  refine lv_iconst (v := 0) hx hb dX3_clear_11 (by decide) ?_
  refine va_put (D := (dC, dI)) (ci := 3) (v := .int 0) (ty := .int) (C := RX3) (T := TX3) (N := 19) hx hb hts inGX3 tyX3 tyX3_ok nmX3 hown hK hP hD hS 0 rfl rfl 5 (by decide) (hts _ wd442) (fun _ h9 => h9) rfl (by decide +kernel) rfl rfl (Nat.le_of_ble_eq_true rfl) dX3_clear_12 (fun H locs hP hD hS => ?_)
  have hP : va_P (dC, dI) vwCl [(om, .inr (3, [.int 0, .int st, .int lo, .ref ob, .int 0, .int 0, .int bm.2.2.2.1, .int bm.2.2.2.2, .ref ok, .int km.2, .int qm.1, .int qm.2.1, .int qm.2.2.1, .int qm.2.2.2, .int bd, .int ym.1, .int ym.2.1, .int ym.2.2.1, .int ym.2.2.2])), (ob, .inl (cZ, 5200, .inl bm.1)), (ok, .inl (cK, 600, .inl km.1))] H := hP
  have hD : va_D A [(om, .inr (3, [.int 0, .int st, .int lo, .ref ob, .int 0, .int 0, .int bm.2.2.2.1, .int bm.2.2.2.2, .ref ok, .int km.2, .int qm.1, .int qm.2.1, .int qm.2.2.1, .int qm.2.2.2, .int bd, .int ym.1, .int ym.2.1, .int ym.2.2.1, .int ym.2.2.2])), (ob, .inl (cZ, 5200, .inl bm.1)), (ok, .inl (cK, 600, .inl km.1))] := hD
  refine lv_aload_n hx hb dX3_clear_15 rfl (lv_at hl 0 rfl) ?_
  refine lv_iconst (v := 0) hx hb dX3_clear_16 (by decide) ?_
  refine va_put (D := (dC, dI)) (ci := 3) (v := .int 0) (ty := .int) (C := RX3) (T := TX3) (N := 19) hx hb hts inGX3 tyX3 tyX3_ok nmX3 hown hK hP hD hS 0 rfl rfl 6 (by decide) (hts _ wd443) (fun _ h9 => h9) rfl (by decide +kernel) rfl rfl (Nat.le_of_ble_eq_true rfl) dX3_clear_17 (fun H locs hP hD hS => ?_)
  have hP : va_P (dC, dI) vwCl [(om, .inr (3, [.int 0, .int st, .int lo, .ref ob, .int 0, .int 0, .int 0, .int bm.2.2.2.2, .ref ok, .int km.2, .int qm.1, .int qm.2.1, .int qm.2.2.1, .int qm.2.2.2, .int bd, .int ym.1, .int ym.2.1, .int ym.2.2.1, .int ym.2.2.2])), (ob, .inl (cZ, 5200, .inl bm.1)), (ok, .inl (cK, 600, .inl km.1))] H := hP
  have hD : va_D A [(om, .inr (3, [.int 0, .int st, .int lo, .ref ob, .int 0, .int 0, .int 0, .int bm.2.2.2.2, .ref ok, .int km.2, .int qm.1, .int qm.2.1, .int qm.2.2.1, .int qm.2.2.2, .int bd, .int ym.1, .int ym.2.1, .int ym.2.2.1, .int ym.2.2.2])), (ob, .inl (cZ, 5200, .inl bm.1)), (ok, .inl (cK, 600, .inl km.1))] := hD
  refine lv_aload_n hx hb dX3_clear_20 rfl (lv_at hl 0 rfl) ?_
  refine lv_iconst (v := 0) hx hb dX3_clear_21 (by decide) ?_
  refine va_put (D := (dC, dI)) (ci := 3) (v := .int 0) (ty := .boolean) (C := RX3) (T := TX3) (N := 19) hx hb hts inGX3 tyX3 tyX3_ok nmX3 hown hK hP hD hS 0 rfl rfl 7 (by decide) (hts _ wd444) (fun _ h9 => h9) rfl (by decide +kernel) rfl rfl (Nat.le_of_ble_eq_true rfl) dX3_clear_22 (fun H locs hP hD hS => ?_)
  have hP : va_P (dC, dI) vwCl [(om, .inr (3, [.int 0, .int st, .int lo, .ref ob, .int 0, .int 0, .int 0, .int 0, .ref ok, .int km.2, .int qm.1, .int qm.2.1, .int qm.2.2.1, .int qm.2.2.2, .int bd, .int ym.1, .int ym.2.1, .int ym.2.2.1, .int ym.2.2.2])), (ob, .inl (cZ, 5200, .inl bm.1)), (ok, .inl (cK, 600, .inl km.1))] H := hP
  have hD : va_D A [(om, .inr (3, [.int 0, .int st, .int lo, .ref ob, .int 0, .int 0, .int 0, .int 0, .ref ok, .int km.2, .int qm.1, .int qm.2.1, .int qm.2.2.1, .int qm.2.2.2, .int bd, .int ym.1, .int ym.2.1, .int ym.2.2.1, .int ym.2.2.2])), (ob, .inl (cZ, 5200, .inl bm.1)), (ok, .inl (cK, 600, .inl km.1))] := hD
  refine lv_aload_n hx hb dX3_clear_25 rfl (lv_at hl 0 rfl) ?_
  refine lv_iconst (v := 0) hx hb dX3_clear_26 (by decide) ?_
  refine va_put (D := (dC, dI)) (ci := 3) (v := .int 0) (ty := .int) (C := RX3) (T := TX3) (N := 19) hx hb hts inGX3 tyX3 tyX3_ok nmX3 hown hK hP hD hS 0 rfl rfl 9 (by decide) (hts _ wd446) (fun _ h9 => h9) rfl (by decide +kernel) rfl rfl (Nat.le_of_ble_eq_true rfl) dX3_clear_27 (fun H locs hP hD hS => ?_)
  have hP : va_P (dC, dI) vwCl [(om, .inr (3, [.int 0, .int st, .int lo, .ref ob, .int 0, .int 0, .int 0, .int 0, .ref ok, .int 0, .int qm.1, .int qm.2.1, .int qm.2.2.1, .int qm.2.2.2, .int bd, .int ym.1, .int ym.2.1, .int ym.2.2.1, .int ym.2.2.2])), (ob, .inl (cZ, 5200, .inl bm.1)), (ok, .inl (cK, 600, .inl km.1))] H := hP
  have hD : va_D A [(om, .inr (3, [.int 0, .int st, .int lo, .ref ob, .int 0, .int 0, .int 0, .int 0, .ref ok, .int 0, .int qm.1, .int qm.2.1, .int qm.2.2.1, .int qm.2.2.2, .int bd, .int ym.1, .int ym.2.1, .int ym.2.2.1, .int ym.2.2.2])), (ob, .inl (cZ, 5200, .inl bm.1)), (ok, .inl (cK, 600, .inl km.1))] := hD
  refine lv_aload_n hx hb dX3_clear_30 rfl (lv_at hl 0 rfl) ?_
  refine lv_iconst (v := 0) hx hb dX3_clear_31 (by decide) ?_
  refine va_put (D := (dC, dI)) (ci := 3) (v := .int 0) (ty := .int) (C := RX3) (T := TX3) (N := 19) hx hb hts inGX3 tyX3 tyX3_ok nmX3 hown hK hP hD hS 0 rfl rfl 10 (by decide) (hts _ wd447) (fun _ h9 => h9) rfl (by decide +kernel) rfl rfl (Nat.le_of_ble_eq_true rfl) dX3_clear_32 (fun H locs hP hD hS => ?_)
  have hP : va_P (dC, dI) vwCl [(om, .inr (3, [.int 0, .int st, .int lo, .ref ob, .int 0, .int 0, .int 0, .int 0, .ref ok, .int 0, .int 0, .int qm.2.1, .int qm.2.2.1, .int qm.2.2.2, .int bd, .int ym.1, .int ym.2.1, .int ym.2.2.1, .int ym.2.2.2])), (ob, .inl (cZ, 5200, .inl bm.1)), (ok, .inl (cK, 600, .inl km.1))] H := hP
  have hD : va_D A [(om, .inr (3, [.int 0, .int st, .int lo, .ref ob, .int 0, .int 0, .int 0, .int 0, .ref ok, .int 0, .int 0, .int qm.2.1, .int qm.2.2.1, .int qm.2.2.2, .int bd, .int ym.1, .int ym.2.1, .int ym.2.2.1, .int ym.2.2.2])), (ob, .inl (cZ, 5200, .inl bm.1)), (ok, .inl (cK, 600, .inl km.1))] := hD
  refine lv_aload_n hx hb dX3_clear_35 rfl (lv_at hl 0 rfl) ?_
  refine lv_iconst (v := 0) hx hb dX3_clear_36 (by decide) ?_
  refine va_put (D := (dC, dI)) (ci := 3) (v := .int 0) (ty := .int) (C := RX3) (T := TX3) (N := 19) hx hb hts inGX3 tyX3 tyX3_ok nmX3 hown hK hP hD hS 0 rfl rfl 11 (by decide) (hts _ wd448) (fun _ h9 => h9) rfl (by decide +kernel) rfl rfl (Nat.le_of_ble_eq_true rfl) dX3_clear_37 (fun H locs hP hD hS => ?_)
  have hP : va_P (dC, dI) vwCl [(om, .inr (3, [.int 0, .int st, .int lo, .ref ob, .int 0, .int 0, .int 0, .int 0, .ref ok, .int 0, .int 0, .int 0, .int qm.2.2.1, .int qm.2.2.2, .int bd, .int ym.1, .int ym.2.1, .int ym.2.2.1, .int ym.2.2.2])), (ob, .inl (cZ, 5200, .inl bm.1)), (ok, .inl (cK, 600, .inl km.1))] H := hP
  have hD : va_D A [(om, .inr (3, [.int 0, .int st, .int lo, .ref ob, .int 0, .int 0, .int 0, .int 0, .ref ok, .int 0, .int 0, .int 0, .int qm.2.2.1, .int qm.2.2.2, .int bd, .int ym.1, .int ym.2.1, .int ym.2.2.1, .int ym.2.2.2])), (ob, .inl (cZ, 5200, .inl bm.1)), (ok, .inl (cK, 600, .inl km.1))] := hD
  refine lv_aload_n hx hb dX3_clear_40 rfl (lv_at hl 0 rfl) ?_
  refine lv_iconst (v := 0) hx hb dX3_clear_41 (by decide) ?_
  refine va_put (D := (dC, dI)) (ci := 3) (v := .int 0) (ty := .int) (C := RX3) (T := TX3) (N := 19) hx hb hts inGX3 tyX3 tyX3_ok nmX3 hown hK hP hD hS 0 rfl rfl 12 (by decide) (hts _ wd449) (fun _ h9 => h9) rfl (by decide +kernel) rfl rfl (Nat.le_of_ble_eq_true rfl) dX3_clear_42 (fun H locs hP hD hS => ?_)
  have hP : va_P (dC, dI) vwCl [(om, .inr (3, [.int 0, .int st, .int lo, .ref ob, .int 0, .int 0, .int 0, .int 0, .ref ok, .int 0, .int 0, .int 0, .int 0, .int qm.2.2.2, .int bd, .int ym.1, .int ym.2.1, .int ym.2.2.1, .int ym.2.2.2])), (ob, .inl (cZ, 5200, .inl bm.1)), (ok, .inl (cK, 600, .inl km.1))] H := hP
  have hD : va_D A [(om, .inr (3, [.int 0, .int st, .int lo, .ref ob, .int 0, .int 0, .int 0, .int 0, .ref ok, .int 0, .int 0, .int 0, .int 0, .int qm.2.2.2, .int bd, .int ym.1, .int ym.2.1, .int ym.2.2.1, .int ym.2.2.2])), (ob, .inl (cZ, 5200, .inl bm.1)), (ok, .inl (cK, 600, .inl km.1))] := hD
  refine lv_aload_n hx hb dX3_clear_45 rfl (lv_at hl 0 rfl) ?_
  refine lv_iconst (v := 0) hx hb dX3_clear_46 (by decide) ?_
  refine va_put (D := (dC, dI)) (ci := 3) (v := .int 0) (ty := .boolean) (C := RX3) (T := TX3) (N := 19) hx hb hts inGX3 tyX3 tyX3_ok nmX3 hown hK hP hD hS 0 rfl rfl 13 (by decide) (hts _ wd450) (fun _ h9 => h9) rfl (by decide +kernel) rfl rfl (Nat.le_of_ble_eq_true rfl) dX3_clear_47 (fun H locs hP hD hS => ?_)
  have hP : va_P (dC, dI) vwCl [(om, .inr (3, [.int 0, .int st, .int lo, .ref ob, .int 0, .int 0, .int 0, .int 0, .ref ok, .int 0, .int 0, .int 0, .int 0, .int 0, .int bd, .int ym.1, .int ym.2.1, .int ym.2.2.1, .int ym.2.2.2])), (ob, .inl (cZ, 5200, .inl bm.1)), (ok, .inl (cK, 600, .inl km.1))] H := hP
  have hD : va_D A [(om, .inr (3, [.int 0, .int st, .int lo, .ref ob, .int 0, .int 0, .int 0, .int 0, .ref ok, .int 0, .int 0, .int 0, .int 0, .int 0, .int bd, .int ym.1, .int ym.2.1, .int ym.2.2.1, .int ym.2.2.2])), (ob, .inl (cZ, 5200, .inl bm.1)), (ok, .inl (cK, 600, .inl km.1))] := hD
  refine lv_aload_n hx hb dX3_clear_50 rfl (lv_at hl 0 rfl) ?_
  refine lv_iconst (v := 0) hx hb dX3_clear_51 (by decide) ?_
  refine va_put (D := (dC, dI)) (ci := 3) (v := .int 0) (ty := .boolean) (C := RX3) (T := TX3) (N := 19) hx hb hts inGX3 tyX3 tyX3_ok nmX3 hown hK hP hD hS 0 rfl rfl 14 (by decide) (hts _ wd451) (fun _ h9 => h9) rfl (by decide +kernel) rfl rfl (Nat.le_of_ble_eq_true rfl) dX3_clear_52 (fun H locs hP hD hS => ?_)
  have hP : va_P (dC, dI) vwCl [(om, .inr (3, [.int 0, .int st, .int lo, .ref ob, .int 0, .int 0, .int 0, .int 0, .ref ok, .int 0, .int 0, .int 0, .int 0, .int 0, .int 0, .int ym.1, .int ym.2.1, .int ym.2.2.1, .int ym.2.2.2])), (ob, .inl (cZ, 5200, .inl bm.1)), (ok, .inl (cK, 600, .inl km.1))] H := hP
  have hD : va_D A [(om, .inr (3, [.int 0, .int st, .int lo, .ref ob, .int 0, .int 0, .int 0, .int 0, .ref ok, .int 0, .int 0, .int 0, .int 0, .int 0, .int 0, .int ym.1, .int ym.2.1, .int ym.2.2.1, .int ym.2.2.2])), (ob, .inl (cZ, 5200, .inl bm.1)), (ok, .inl (cK, 600, .inl km.1))] := hD
  have hP9 := hP.sub (ws' := [(om, .inr (3, [.int 0, .int st, .int lo, .ref ob, .int 0, .int 0, .int 0, .int 0, .ref ok, .int 0, .int 0, .int 0, .int 0, .int 0, .int 0, .int ym.1, .int ym.2.1, .int ym.2.2.1, .int ym.2.2.2])), (ob, .inl (cZ, 5200, .inl bm.1)), (ok, .inl (cK, 600, .inl km.1))]) [0, 1, 2] rfl
  have hD9 := hD.sub (ws' := [(om, .inr (3, [.int 0, .int st, .int lo, .ref ob, .int 0, .int 0, .int 0, .int 0, .ref ok, .int 0, .int 0, .int 0, .int 0, .int 0, .int 0, .int ym.1, .int ym.2.1, .int ym.2.2.1, .int ym.2.2.2])), (ob, .inl (cZ, 5200, .inl bm.1)), (ok, .inl (cK, 600, .inl km.1))]) [0, 1, 2] (by decide) rfl
  exact W.vret hx hb hr (fun t ht hW => ⟨⟨(0, (bm.1, 0, 0, 0, 0), (km.1, 0), (0, 0, 0, 0), 0), rfl, (plX3_clear_0 st lo th bm km qm bd ym), by rw [ht]; exact hP9, hD9⟩, hS.F ht⟩) hS.2.2 dX3_clear_55
def FX3_beginTry (st : Int32) (lo : Int32) (th : Int32) (bm : Bm) (km : Rw) (qm : Tk) (bd : Int32) (ym : Tk) : Tk :=
  qm
set_option maxRecDepth 100000 in
theorem plX3_beginTry_0 (st : Int32) (lo : Int32) (th : Int32) (bm : Bm) (km : Rw) (qm : Tk) (bd : Int32) (ym : Tk)  : qm = FX3_beginTry st lo th bm km qm bd ym := by
  exact rfl
set_option maxHeartbeats 4000000 in
set_option maxRecDepth 100000 in
theorem mX3_beginTry (l : Launch) (dC : Nat → ClassId) (dI : Nat → Nat → Nat) (cZ cK : ClassId) (om ob ok : Nat) (sz : Nat) (st : Int32) (lo : Int32) (th : Int32) (bm : Bm) (km : Rw) (qm : Tk) (bd : Int32) (ym : Tk) (hq : isB qm.2.2.2) : Met l yX3_beginTry (Cond.code yX3_beginTry cX3_beginTry 1 none :: G) ({ frames := 0, cells := 0, slots := 0, locals := 0 } : Room) (va_Pc [.ref om] (fun U => U.heap.size = sz ∧ va_P (dC, dI) vwCl [(om, .inr (3, [.int th, .int st, .int lo, .ref ob, .int bm.2.1, .int bm.2.2.1, .int bm.2.2.2.1, .int bm.2.2.2.2, .ref ok, .int km.2, .int qm.1, .int qm.2.1, .int qm.2.2.1, .int qm.2.2.2, .int bd, .int ym.1, .int ym.2.1, .int ym.2.2.1, .int ym.2.2.2])), (ob, .inl (cZ, 5200, .inl bm.1)), (ok, .inl (cK, 600, .inl km.1))] U.heap ∧ va_K (dC, dI) vwCl [(cZ, .boolean), (cK, .int)] U ∧ va_D (fun _ => True) [(om, .inr (3, [.int th, .int st, .int lo, .ref ob, .int bm.2.1, .int bm.2.2.1, .int bm.2.2.2.1, .int bm.2.2.2.2, .ref ok, .int km.2, .int qm.1, .int qm.2.1, .int qm.2.2.1, .int qm.2.2.2, .int bd, .int ym.1, .int ym.2.1, .int ym.2.2.1, .int ym.2.2.2])), (ob, .inl (cZ, 5200, .inl bm.1)), (ok, .inl (cK, 600, .inl km.1))] ∧ zOk U)) (va_Qv (fun (u : Tk) => u = (FX3_beginTry st lo th bm km qm bd ym)) (fun (u : Tk) (t : State) => va_P (dC, dI) vwCl [(om, .inr (3, [.int th, .int st, .int lo, .ref ob, .int bm.2.1, .int bm.2.2.1, .int bm.2.2.2.1, .int bm.2.2.2.2, .ref ok, .int km.2, .int qm.1, .int qm.2.1, .int qm.2.2.1, .int qm.2.2.2, .int bd, .int u.1, .int u.2.1, .int u.2.2.1, .int u.2.2.2])), (ob, .inl (cZ, 5200, .inl bm.1)), (ok, .inl (cK, 600, .inl km.1))] t.heap ∧ va_D (va_A [(om, .inr (3, [.int th, .int st, .int lo, .ref ob, .int bm.2.1, .int bm.2.2.1, .int bm.2.2.2.1, .int bm.2.2.2.2, .ref ok, .int km.2, .int qm.1, .int qm.2.1, .int qm.2.2.1, .int qm.2.2.2, .int bd, .int ym.1, .int ym.2.1, .int ym.2.2.1, .int ym.2.2.2])), (ob, .inl (cZ, 5200, .inl bm.1)), (ok, .inl (cK, 600, .inl km.1))] sz) [(om, .inr (3, [.int th, .int st, .int lo, .ref ob, .int bm.2.1, .int bm.2.2.1, .int bm.2.2.2.1, .int bm.2.2.2.2, .ref ok, .int km.2, .int qm.1, .int qm.2.1, .int qm.2.2.1, .int qm.2.2.2, .int bd, .int u.1, .int u.2.1, .int u.2.2.1, .int u.2.2.2])), (ob, .inl (cZ, 5200, .inl bm.1)), (ok, .inl (cK, 600, .inl km.1))]) (va_A [(om, .inr (3, [.int th, .int st, .int lo, .ref ob, .int bm.2.1, .int bm.2.2.1, .int bm.2.2.2.1, .int bm.2.2.2.2, .ref ok, .int km.2, .int qm.1, .int qm.2.1, .int qm.2.2.1, .int qm.2.2.2, .int bd, .int ym.1, .int ym.2.1, .int ym.2.2.1, .int ym.2.2.2])), (ob, .inl (cZ, 5200, .inl bm.1)), (ok, .inl (cK, 600, .inl km.1))] sz)) 0 0 (va_A [(om, .inr (3, [.int th, .int st, .int lo, .ref ob, .int bm.2.1, .int bm.2.2.1, .int bm.2.2.2.1, .int bm.2.2.2.2, .ref ok, .int km.2, .int qm.1, .int qm.2.1, .int qm.2.2.1, .int qm.2.2.2, .int bd, .int ym.1, .int ym.2.1, .int ym.2.2.1, .int ym.2.2.2])), (ob, .inl (cZ, 5200, .inl bm.1)), (ok, .inl (cK, 600, .inl km.1))] sz) := by
  refine Met.ofW (cc := cX3_beginTry) (maxL := 1) (ret := none) (by decide) rfl ?_
  intro p e s m args below meth c s₁ B hml hv
  obtain ⟨rfl, hsz, hP, hK, hD0, hZ⟩ := hv
  have hx := B.exec
  have hb := B.bytes
  have hr := B.returns
  have hts : ∀ w ∈ G, w.before [.ref om].toArray s = true := fun w h => atoms_spec (ws := (Cond.code yX3_beginTry cX3_beginTry 1 none :: G)) B.pre w (List.mem_cons_of_mem _ h)
  have hown : s.vm.findClass RX3 = some m.cls := findClass_of_methodNamed B.named
  have hlocks := B.notSynchronized
  subst hsz
  have hD := hD0.self (sz := s.heap.size)
  generalize hAe : va_A [(om, .inr (3, [.int th, .int st, .int lo, .ref ob, .int bm.2.1, .int bm.2.2.1, .int bm.2.2.2.1, .int bm.2.2.2.2, .ref ok, .int km.2, .int qm.1, .int qm.2.1, .int qm.2.2.1, .int qm.2.2.2, .int bd, .int ym.1, .int ym.2.1, .int ym.2.2.1, .int ym.2.2.2])), (ob, .inl (cZ, 5200, .inl bm.1)), (ok, .inl (cK, 600, .inl km.1))] s.heap.size = A at hD ⊢
  have hA : ∀ q : Nat, s.heap.size ≤ q → A q := fun q h => by rw [← hAe]; exact Or.inr h
  have hS : va_S A s.heap s.heap [] := va_S.rf
  have hP : va_P (dC, dI) vwCl [(om, .inr (3, [.int th, .int st, .int lo, .ref ob, .int bm.2.1, .int bm.2.2.1, .int bm.2.2.2.1, .int bm.2.2.2.2, .ref ok, .int km.2, .int qm.1, .int qm.2.1, .int qm.2.2.1, .int qm.2.2.2, .int bd, .int ym.1, .int ym.2.1, .int ym.2.2.1, .int ym.2.2.2])), (ob, .inl (cZ, 5200, .inl bm.1)), (ok, .inl (cK, 600, .inl km.1))] s.heap := hP
  have hl := lv_entry ([.ref om]) (n := 1) (Nat.le_of_ble_eq_true rfl)
  rw [lg_entry_eq]
  generalize (lg_sl ([.ref om]) ++ List.replicate (1 - (lg_sl ([.ref om])).length) Slot.unset).toArray = ls at hl ⊢
  have hl : lv_has ls 1 [(0, .ref om)] := hl
  refine lv_aload_n hx hb dX3_beginTry_0 rfl (lv_at hl 0 rfl) ?_
  refine lv_aload_n hx hb dX3_beginTry_1 rfl (lv_at hl 0 rfl) ?_
  refine va_get (D := (dC, dI)) (ci := 3) (v := .int qm.1) (C := RX3) (T := TX3) (N := 19) hx hb hts inGX3 hown hK hP 0 rfl rfl 10 (by decide) (hts _ wd447) (fun _ h9 => h9) rfl dX3_beginTry_2 ?_
  refine va_put (D := (dC, dI)) (ci := 3) (v := .int qm.1) (ty := .int) (C := RX3) (T := TX3) (N := 19) hx hb hts inGX3 tyX3 tyX3_ok nmX3 hown hK hP hD hS 0 rfl rfl 15 (by decide) (hts _ wd452) (fun _ h9 => h9) rfl (by decide +kernel) rfl rfl (Nat.le_of_ble_eq_true rfl) dX3_beginTry_5 (fun H locs hP hD hS => ?_)
  have hP : va_P (dC, dI) vwCl [(om, .inr (3, [.int th, .int st, .int lo, .ref ob, .int bm.2.1, .int bm.2.2.1, .int bm.2.2.2.1, .int bm.2.2.2.2, .ref ok, .int km.2, .int qm.1, .int qm.2.1, .int qm.2.2.1, .int qm.2.2.2, .int bd, .int qm.1, .int ym.2.1, .int ym.2.2.1, .int ym.2.2.2])), (ob, .inl (cZ, 5200, .inl bm.1)), (ok, .inl (cK, 600, .inl km.1))] H := hP
  have hD : va_D A [(om, .inr (3, [.int th, .int st, .int lo, .ref ob, .int bm.2.1, .int bm.2.2.1, .int bm.2.2.2.1, .int bm.2.2.2.2, .ref ok, .int km.2, .int qm.1, .int qm.2.1, .int qm.2.2.1, .int qm.2.2.2, .int bd, .int qm.1, .int ym.2.1, .int ym.2.2.1, .int ym.2.2.2])), (ob, .inl (cZ, 5200, .inl bm.1)), (ok, .inl (cK, 600, .inl km.1))] := hD
  refine lv_aload_n hx hb dX3_beginTry_8 rfl (lv_at hl 0 rfl) ?_
  refine lv_aload_n hx hb dX3_beginTry_9 rfl (lv_at hl 0 rfl) ?_
  refine va_get (D := (dC, dI)) (ci := 3) (v := .int qm.2.1) (C := RX3) (T := TX3) (N := 19) hx hb hts inGX3 hown hK hP 0 rfl rfl 11 (by decide) (hts _ wd448) (fun _ h9 => h9) rfl dX3_beginTry_10 ?_
  refine va_put (D := (dC, dI)) (ci := 3) (v := .int qm.2.1) (ty := .int) (C := RX3) (T := TX3) (N := 19) hx hb hts inGX3 tyX3 tyX3_ok nmX3 hown hK hP hD hS 0 rfl rfl 16 (by decide) (hts _ wd453) (fun _ h9 => h9) rfl (by decide +kernel) rfl rfl (Nat.le_of_ble_eq_true rfl) dX3_beginTry_13 (fun H locs hP hD hS => ?_)
  have hP : va_P (dC, dI) vwCl [(om, .inr (3, [.int th, .int st, .int lo, .ref ob, .int bm.2.1, .int bm.2.2.1, .int bm.2.2.2.1, .int bm.2.2.2.2, .ref ok, .int km.2, .int qm.1, .int qm.2.1, .int qm.2.2.1, .int qm.2.2.2, .int bd, .int qm.1, .int qm.2.1, .int ym.2.2.1, .int ym.2.2.2])), (ob, .inl (cZ, 5200, .inl bm.1)), (ok, .inl (cK, 600, .inl km.1))] H := hP
  have hD : va_D A [(om, .inr (3, [.int th, .int st, .int lo, .ref ob, .int bm.2.1, .int bm.2.2.1, .int bm.2.2.2.1, .int bm.2.2.2.2, .ref ok, .int km.2, .int qm.1, .int qm.2.1, .int qm.2.2.1, .int qm.2.2.2, .int bd, .int qm.1, .int qm.2.1, .int ym.2.2.1, .int ym.2.2.2])), (ob, .inl (cZ, 5200, .inl bm.1)), (ok, .inl (cK, 600, .inl km.1))] := hD
  refine lv_aload_n hx hb dX3_beginTry_16 rfl (lv_at hl 0 rfl) ?_
  refine lv_aload_n hx hb dX3_beginTry_17 rfl (lv_at hl 0 rfl) ?_
  refine va_get (D := (dC, dI)) (ci := 3) (v := .int qm.2.2.1) (C := RX3) (T := TX3) (N := 19) hx hb hts inGX3 hown hK hP 0 rfl rfl 12 (by decide) (hts _ wd449) (fun _ h9 => h9) rfl dX3_beginTry_18 ?_
  refine va_put (D := (dC, dI)) (ci := 3) (v := .int qm.2.2.1) (ty := .int) (C := RX3) (T := TX3) (N := 19) hx hb hts inGX3 tyX3 tyX3_ok nmX3 hown hK hP hD hS 0 rfl rfl 17 (by decide) (hts _ wd454) (fun _ h9 => h9) rfl (by decide +kernel) rfl rfl (Nat.le_of_ble_eq_true rfl) dX3_beginTry_21 (fun H locs hP hD hS => ?_)
  have hP : va_P (dC, dI) vwCl [(om, .inr (3, [.int th, .int st, .int lo, .ref ob, .int bm.2.1, .int bm.2.2.1, .int bm.2.2.2.1, .int bm.2.2.2.2, .ref ok, .int km.2, .int qm.1, .int qm.2.1, .int qm.2.2.1, .int qm.2.2.2, .int bd, .int qm.1, .int qm.2.1, .int qm.2.2.1, .int ym.2.2.2])), (ob, .inl (cZ, 5200, .inl bm.1)), (ok, .inl (cK, 600, .inl km.1))] H := hP
  have hD : va_D A [(om, .inr (3, [.int th, .int st, .int lo, .ref ob, .int bm.2.1, .int bm.2.2.1, .int bm.2.2.2.1, .int bm.2.2.2.2, .ref ok, .int km.2, .int qm.1, .int qm.2.1, .int qm.2.2.1, .int qm.2.2.2, .int bd, .int qm.1, .int qm.2.1, .int qm.2.2.1, .int ym.2.2.2])), (ob, .inl (cZ, 5200, .inl bm.1)), (ok, .inl (cK, 600, .inl km.1))] := hD
  refine lv_aload_n hx hb dX3_beginTry_24 rfl (lv_at hl 0 rfl) ?_
  refine lv_aload_n hx hb dX3_beginTry_25 rfl (lv_at hl 0 rfl) ?_
  refine va_get (D := (dC, dI)) (ci := 3) (v := .int qm.2.2.2) (C := RX3) (T := TX3) (N := 19) hx hb hts inGX3 hown hK hP 0 rfl rfl 13 (by decide) (hts _ wd450) (fun _ h9 => h9) rfl dX3_beginTry_26 ?_
  refine va_put (D := (dC, dI)) (ci := 3) (v := .int qm.2.2.2) (ty := .boolean) (C := RX3) (T := TX3) (N := 19) hx hb hts inGX3 tyX3 tyX3_ok nmX3 hown hK hP hD hS 0 rfl rfl 18 (by decide) (hts _ wd455) (fun _ h9 => h9) rfl (by decide +kernel) hq.nar hq.fit (Nat.le_of_ble_eq_true rfl) dX3_beginTry_29 (fun H locs hP hD hS => ?_)
  have hP : va_P (dC, dI) vwCl [(om, .inr (3, [.int th, .int st, .int lo, .ref ob, .int bm.2.1, .int bm.2.2.1, .int bm.2.2.2.1, .int bm.2.2.2.2, .ref ok, .int km.2, .int qm.1, .int qm.2.1, .int qm.2.2.1, .int qm.2.2.2, .int bd, .int qm.1, .int qm.2.1, .int qm.2.2.1, .int qm.2.2.2])), (ob, .inl (cZ, 5200, .inl bm.1)), (ok, .inl (cK, 600, .inl km.1))] H := hP
  have hD : va_D A [(om, .inr (3, [.int th, .int st, .int lo, .ref ob, .int bm.2.1, .int bm.2.2.1, .int bm.2.2.2.1, .int bm.2.2.2.2, .ref ok, .int km.2, .int qm.1, .int qm.2.1, .int qm.2.2.1, .int qm.2.2.2, .int bd, .int qm.1, .int qm.2.1, .int qm.2.2.1, .int qm.2.2.2])), (ob, .inl (cZ, 5200, .inl bm.1)), (ok, .inl (cK, 600, .inl km.1))] := hD
  have hP9 := hP.sub (ws' := [(om, .inr (3, [.int th, .int st, .int lo, .ref ob, .int bm.2.1, .int bm.2.2.1, .int bm.2.2.2.1, .int bm.2.2.2.2, .ref ok, .int km.2, .int qm.1, .int qm.2.1, .int qm.2.2.1, .int qm.2.2.2, .int bd, .int qm.1, .int qm.2.1, .int qm.2.2.1, .int qm.2.2.2])), (ob, .inl (cZ, 5200, .inl bm.1)), (ok, .inl (cK, 600, .inl km.1))]) [0, 1, 2] rfl
  have hD9 := hD.sub (ws' := [(om, .inr (3, [.int th, .int st, .int lo, .ref ob, .int bm.2.1, .int bm.2.2.1, .int bm.2.2.2.1, .int bm.2.2.2.2, .ref ok, .int km.2, .int qm.1, .int qm.2.1, .int qm.2.2.1, .int qm.2.2.2, .int bd, .int qm.1, .int qm.2.1, .int qm.2.2.1, .int qm.2.2.2])), (ob, .inl (cZ, 5200, .inl bm.1)), (ok, .inl (cK, 600, .inl km.1))]) [0, 1, 2] (by decide) rfl
  exact W.vret hx hb hr (fun t ht hW => ⟨⟨qm, rfl, (plX3_beginTry_0 st lo th bm km qm bd ym), by rw [ht]; exact hP9, hD9⟩, hS.F ht⟩) hS.2.2 dX3_beginTry_32
def FX3_keepTry (st : Int32) (lo : Int32) (th : Int32) (bm : Bm) (km : Rw) (qm : Tk) (bd : Int32) (ym : Tk) : Tk :=
  ym
set_option maxRecDepth 100000 in
theorem plX3_keepTry_0 (st : Int32) (lo : Int32) (th : Int32) (bm : Bm) (km : Rw) (qm : Tk) (bd : Int32) (ym : Tk)  : ym = FX3_keepTry st lo th bm km qm bd ym := by
  exact rfl
set_option maxHeartbeats 4000000 in
set_option maxRecDepth 100000 in
theorem mX3_keepTry (l : Launch) (dC : Nat → ClassId) (dI : Nat → Nat → Nat) (cZ cK : ClassId) (om ob ok : Nat) (sz : Nat) (st : Int32) (lo : Int32) (th : Int32) (bm : Bm) (km : Rw) (qm : Tk) (bd : Int32) (ym : Tk) (hq : isB ym.2.2.2) : Met l yX3_keepTry (Cond.code yX3_keepTry cX3_keepTry 1 none :: G) ({ frames := 0, cells := 0, slots := 0, locals := 0 } : Room) (va_Pc [.ref om] (fun U => U.heap.size = sz ∧ va_P (dC, dI) vwCl [(om, .inr (3, [.int th, .int st, .int lo, .ref ob, .int bm.2.1, .int bm.2.2.1, .int bm.2.2.2.1, .int bm.2.2.2.2, .ref ok, .int km.2, .int qm.1, .int qm.2.1, .int qm.2.2.1, .int qm.2.2.2, .int bd, .int ym.1, .int ym.2.1, .int ym.2.2.1, .int ym.2.2.2])), (ob, .inl (cZ, 5200, .inl bm.1)), (ok, .inl (cK, 600, .inl km.1))] U.heap ∧ va_K (dC, dI) vwCl [(cZ, .boolean), (cK, .int)] U ∧ va_D (fun _ => True) [(om, .inr (3, [.int th, .int st, .int lo, .ref ob, .int bm.2.1, .int bm.2.2.1, .int bm.2.2.2.1, .int bm.2.2.2.2, .ref ok, .int km.2, .int qm.1, .int qm.2.1, .int qm.2.2.1, .int qm.2.2.2, .int bd, .int ym.1, .int ym.2.1, .int ym.2.2.1, .int ym.2.2.2])), (ob, .inl (cZ, 5200, .inl bm.1)), (ok, .inl (cK, 600, .inl km.1))] ∧ zOk U)) (va_Qv (fun (u : Tk) => u = (FX3_keepTry st lo th bm km qm bd ym)) (fun (u : Tk) (t : State) => va_P (dC, dI) vwCl [(om, .inr (3, [.int th, .int st, .int lo, .ref ob, .int bm.2.1, .int bm.2.2.1, .int bm.2.2.2.1, .int bm.2.2.2.2, .ref ok, .int km.2, .int u.1, .int u.2.1, .int u.2.2.1, .int u.2.2.2, .int bd, .int ym.1, .int ym.2.1, .int ym.2.2.1, .int ym.2.2.2])), (ob, .inl (cZ, 5200, .inl bm.1)), (ok, .inl (cK, 600, .inl km.1))] t.heap ∧ va_D (va_A [(om, .inr (3, [.int th, .int st, .int lo, .ref ob, .int bm.2.1, .int bm.2.2.1, .int bm.2.2.2.1, .int bm.2.2.2.2, .ref ok, .int km.2, .int qm.1, .int qm.2.1, .int qm.2.2.1, .int qm.2.2.2, .int bd, .int ym.1, .int ym.2.1, .int ym.2.2.1, .int ym.2.2.2])), (ob, .inl (cZ, 5200, .inl bm.1)), (ok, .inl (cK, 600, .inl km.1))] sz) [(om, .inr (3, [.int th, .int st, .int lo, .ref ob, .int bm.2.1, .int bm.2.2.1, .int bm.2.2.2.1, .int bm.2.2.2.2, .ref ok, .int km.2, .int u.1, .int u.2.1, .int u.2.2.1, .int u.2.2.2, .int bd, .int ym.1, .int ym.2.1, .int ym.2.2.1, .int ym.2.2.2])), (ob, .inl (cZ, 5200, .inl bm.1)), (ok, .inl (cK, 600, .inl km.1))]) (va_A [(om, .inr (3, [.int th, .int st, .int lo, .ref ob, .int bm.2.1, .int bm.2.2.1, .int bm.2.2.2.1, .int bm.2.2.2.2, .ref ok, .int km.2, .int qm.1, .int qm.2.1, .int qm.2.2.1, .int qm.2.2.2, .int bd, .int ym.1, .int ym.2.1, .int ym.2.2.1, .int ym.2.2.2])), (ob, .inl (cZ, 5200, .inl bm.1)), (ok, .inl (cK, 600, .inl km.1))] sz)) 0 0 (va_A [(om, .inr (3, [.int th, .int st, .int lo, .ref ob, .int bm.2.1, .int bm.2.2.1, .int bm.2.2.2.1, .int bm.2.2.2.2, .ref ok, .int km.2, .int qm.1, .int qm.2.1, .int qm.2.2.1, .int qm.2.2.2, .int bd, .int ym.1, .int ym.2.1, .int ym.2.2.1, .int ym.2.2.2])), (ob, .inl (cZ, 5200, .inl bm.1)), (ok, .inl (cK, 600, .inl km.1))] sz) := by
  refine Met.ofW (cc := cX3_keepTry) (maxL := 1) (ret := none) (by decide) rfl ?_
  intro p e s m args below meth c s₁ B hml hv
  obtain ⟨rfl, hsz, hP, hK, hD0, hZ⟩ := hv
  have hx := B.exec
  have hb := B.bytes
  have hr := B.returns
  have hts : ∀ w ∈ G, w.before [.ref om].toArray s = true := fun w h => atoms_spec (ws := (Cond.code yX3_keepTry cX3_keepTry 1 none :: G)) B.pre w (List.mem_cons_of_mem _ h)
  have hown : s.vm.findClass RX3 = some m.cls := findClass_of_methodNamed B.named
  have hlocks := B.notSynchronized
  subst hsz
  have hD := hD0.self (sz := s.heap.size)
  generalize hAe : va_A [(om, .inr (3, [.int th, .int st, .int lo, .ref ob, .int bm.2.1, .int bm.2.2.1, .int bm.2.2.2.1, .int bm.2.2.2.2, .ref ok, .int km.2, .int qm.1, .int qm.2.1, .int qm.2.2.1, .int qm.2.2.2, .int bd, .int ym.1, .int ym.2.1, .int ym.2.2.1, .int ym.2.2.2])), (ob, .inl (cZ, 5200, .inl bm.1)), (ok, .inl (cK, 600, .inl km.1))] s.heap.size = A at hD ⊢
  have hA : ∀ q : Nat, s.heap.size ≤ q → A q := fun q h => by rw [← hAe]; exact Or.inr h
  have hS : va_S A s.heap s.heap [] := va_S.rf
  have hP : va_P (dC, dI) vwCl [(om, .inr (3, [.int th, .int st, .int lo, .ref ob, .int bm.2.1, .int bm.2.2.1, .int bm.2.2.2.1, .int bm.2.2.2.2, .ref ok, .int km.2, .int qm.1, .int qm.2.1, .int qm.2.2.1, .int qm.2.2.2, .int bd, .int ym.1, .int ym.2.1, .int ym.2.2.1, .int ym.2.2.2])), (ob, .inl (cZ, 5200, .inl bm.1)), (ok, .inl (cK, 600, .inl km.1))] s.heap := hP
  have hl := lv_entry ([.ref om]) (n := 1) (Nat.le_of_ble_eq_true rfl)
  rw [lg_entry_eq]
  generalize (lg_sl ([.ref om]) ++ List.replicate (1 - (lg_sl ([.ref om])).length) Slot.unset).toArray = ls at hl ⊢
  have hl : lv_has ls 1 [(0, .ref om)] := hl
  refine lv_aload_n hx hb dX3_keepTry_0 rfl (lv_at hl 0 rfl) ?_
  refine lv_aload_n hx hb dX3_keepTry_1 rfl (lv_at hl 0 rfl) ?_
  refine va_get (D := (dC, dI)) (ci := 3) (v := .int ym.1) (C := RX3) (T := TX3) (N := 19) hx hb hts inGX3 hown hK hP 0 rfl rfl 15 (by decide) (hts _ wd452) (fun _ h9 => h9) rfl dX3_keepTry_2 ?_
  refine va_put (D := (dC, dI)) (ci := 3) (v := .int ym.1) (ty := .int) (C := RX3) (T := TX3) (N := 19) hx hb hts inGX3 tyX3 tyX3_ok nmX3 hown hK hP hD hS 0 rfl rfl 10 (by decide) (hts _ wd447) (fun _ h9 => h9) rfl (by decide +kernel) rfl rfl (Nat.le_of_ble_eq_true rfl) dX3_keepTry_5 (fun H locs hP hD hS => ?_)
  have hP : va_P (dC, dI) vwCl [(om, .inr (3, [.int th, .int st, .int lo, .ref ob, .int bm.2.1, .int bm.2.2.1, .int bm.2.2.2.1, .int bm.2.2.2.2, .ref ok, .int km.2, .int ym.1, .int qm.2.1, .int qm.2.2.1, .int qm.2.2.2, .int bd, .int ym.1, .int ym.2.1, .int ym.2.2.1, .int ym.2.2.2])), (ob, .inl (cZ, 5200, .inl bm.1)), (ok, .inl (cK, 600, .inl km.1))] H := hP
  have hD : va_D A [(om, .inr (3, [.int th, .int st, .int lo, .ref ob, .int bm.2.1, .int bm.2.2.1, .int bm.2.2.2.1, .int bm.2.2.2.2, .ref ok, .int km.2, .int ym.1, .int qm.2.1, .int qm.2.2.1, .int qm.2.2.2, .int bd, .int ym.1, .int ym.2.1, .int ym.2.2.1, .int ym.2.2.2])), (ob, .inl (cZ, 5200, .inl bm.1)), (ok, .inl (cK, 600, .inl km.1))] := hD
  refine lv_aload_n hx hb dX3_keepTry_8 rfl (lv_at hl 0 rfl) ?_
  refine lv_aload_n hx hb dX3_keepTry_9 rfl (lv_at hl 0 rfl) ?_
  refine va_get (D := (dC, dI)) (ci := 3) (v := .int ym.2.1) (C := RX3) (T := TX3) (N := 19) hx hb hts inGX3 hown hK hP 0 rfl rfl 16 (by decide) (hts _ wd453) (fun _ h9 => h9) rfl dX3_keepTry_10 ?_
  refine va_put (D := (dC, dI)) (ci := 3) (v := .int ym.2.1) (ty := .int) (C := RX3) (T := TX3) (N := 19) hx hb hts inGX3 tyX3 tyX3_ok nmX3 hown hK hP hD hS 0 rfl rfl 11 (by decide) (hts _ wd448) (fun _ h9 => h9) rfl (by decide +kernel) rfl rfl (Nat.le_of_ble_eq_true rfl) dX3_keepTry_13 (fun H locs hP hD hS => ?_)
  have hP : va_P (dC, dI) vwCl [(om, .inr (3, [.int th, .int st, .int lo, .ref ob, .int bm.2.1, .int bm.2.2.1, .int bm.2.2.2.1, .int bm.2.2.2.2, .ref ok, .int km.2, .int ym.1, .int ym.2.1, .int qm.2.2.1, .int qm.2.2.2, .int bd, .int ym.1, .int ym.2.1, .int ym.2.2.1, .int ym.2.2.2])), (ob, .inl (cZ, 5200, .inl bm.1)), (ok, .inl (cK, 600, .inl km.1))] H := hP
  have hD : va_D A [(om, .inr (3, [.int th, .int st, .int lo, .ref ob, .int bm.2.1, .int bm.2.2.1, .int bm.2.2.2.1, .int bm.2.2.2.2, .ref ok, .int km.2, .int ym.1, .int ym.2.1, .int qm.2.2.1, .int qm.2.2.2, .int bd, .int ym.1, .int ym.2.1, .int ym.2.2.1, .int ym.2.2.2])), (ob, .inl (cZ, 5200, .inl bm.1)), (ok, .inl (cK, 600, .inl km.1))] := hD
  refine lv_aload_n hx hb dX3_keepTry_16 rfl (lv_at hl 0 rfl) ?_
  refine lv_aload_n hx hb dX3_keepTry_17 rfl (lv_at hl 0 rfl) ?_
  refine va_get (D := (dC, dI)) (ci := 3) (v := .int ym.2.2.1) (C := RX3) (T := TX3) (N := 19) hx hb hts inGX3 hown hK hP 0 rfl rfl 17 (by decide) (hts _ wd454) (fun _ h9 => h9) rfl dX3_keepTry_18 ?_
  refine va_put (D := (dC, dI)) (ci := 3) (v := .int ym.2.2.1) (ty := .int) (C := RX3) (T := TX3) (N := 19) hx hb hts inGX3 tyX3 tyX3_ok nmX3 hown hK hP hD hS 0 rfl rfl 12 (by decide) (hts _ wd449) (fun _ h9 => h9) rfl (by decide +kernel) rfl rfl (Nat.le_of_ble_eq_true rfl) dX3_keepTry_21 (fun H locs hP hD hS => ?_)
  have hP : va_P (dC, dI) vwCl [(om, .inr (3, [.int th, .int st, .int lo, .ref ob, .int bm.2.1, .int bm.2.2.1, .int bm.2.2.2.1, .int bm.2.2.2.2, .ref ok, .int km.2, .int ym.1, .int ym.2.1, .int ym.2.2.1, .int qm.2.2.2, .int bd, .int ym.1, .int ym.2.1, .int ym.2.2.1, .int ym.2.2.2])), (ob, .inl (cZ, 5200, .inl bm.1)), (ok, .inl (cK, 600, .inl km.1))] H := hP
  have hD : va_D A [(om, .inr (3, [.int th, .int st, .int lo, .ref ob, .int bm.2.1, .int bm.2.2.1, .int bm.2.2.2.1, .int bm.2.2.2.2, .ref ok, .int km.2, .int ym.1, .int ym.2.1, .int ym.2.2.1, .int qm.2.2.2, .int bd, .int ym.1, .int ym.2.1, .int ym.2.2.1, .int ym.2.2.2])), (ob, .inl (cZ, 5200, .inl bm.1)), (ok, .inl (cK, 600, .inl km.1))] := hD
  refine lv_aload_n hx hb dX3_keepTry_24 rfl (lv_at hl 0 rfl) ?_
  refine lv_aload_n hx hb dX3_keepTry_25 rfl (lv_at hl 0 rfl) ?_
  refine va_get (D := (dC, dI)) (ci := 3) (v := .int ym.2.2.2) (C := RX3) (T := TX3) (N := 19) hx hb hts inGX3 hown hK hP 0 rfl rfl 18 (by decide) (hts _ wd455) (fun _ h9 => h9) rfl dX3_keepTry_26 ?_
  refine va_put (D := (dC, dI)) (ci := 3) (v := .int ym.2.2.2) (ty := .boolean) (C := RX3) (T := TX3) (N := 19) hx hb hts inGX3 tyX3 tyX3_ok nmX3 hown hK hP hD hS 0 rfl rfl 13 (by decide) (hts _ wd450) (fun _ h9 => h9) rfl (by decide +kernel) hq.nar hq.fit (Nat.le_of_ble_eq_true rfl) dX3_keepTry_29 (fun H locs hP hD hS => ?_)
  have hP : va_P (dC, dI) vwCl [(om, .inr (3, [.int th, .int st, .int lo, .ref ob, .int bm.2.1, .int bm.2.2.1, .int bm.2.2.2.1, .int bm.2.2.2.2, .ref ok, .int km.2, .int ym.1, .int ym.2.1, .int ym.2.2.1, .int ym.2.2.2, .int bd, .int ym.1, .int ym.2.1, .int ym.2.2.1, .int ym.2.2.2])), (ob, .inl (cZ, 5200, .inl bm.1)), (ok, .inl (cK, 600, .inl km.1))] H := hP
  have hD : va_D A [(om, .inr (3, [.int th, .int st, .int lo, .ref ob, .int bm.2.1, .int bm.2.2.1, .int bm.2.2.2.1, .int bm.2.2.2.2, .ref ok, .int km.2, .int ym.1, .int ym.2.1, .int ym.2.2.1, .int ym.2.2.2, .int bd, .int ym.1, .int ym.2.1, .int ym.2.2.1, .int ym.2.2.2])), (ob, .inl (cZ, 5200, .inl bm.1)), (ok, .inl (cK, 600, .inl km.1))] := hD
  have hP9 := hP.sub (ws' := [(om, .inr (3, [.int th, .int st, .int lo, .ref ob, .int bm.2.1, .int bm.2.2.1, .int bm.2.2.2.1, .int bm.2.2.2.2, .ref ok, .int km.2, .int ym.1, .int ym.2.1, .int ym.2.2.1, .int ym.2.2.2, .int bd, .int ym.1, .int ym.2.1, .int ym.2.2.1, .int ym.2.2.2])), (ob, .inl (cZ, 5200, .inl bm.1)), (ok, .inl (cK, 600, .inl km.1))]) [0, 1, 2] rfl
  have hD9 := hD.sub (ws' := [(om, .inr (3, [.int th, .int st, .int lo, .ref ob, .int bm.2.1, .int bm.2.2.1, .int bm.2.2.2.1, .int bm.2.2.2.2, .ref ok, .int km.2, .int ym.1, .int ym.2.1, .int ym.2.2.1, .int ym.2.2.2, .int bd, .int ym.1, .int ym.2.1, .int ym.2.2.1, .int ym.2.2.2])), (ob, .inl (cZ, 5200, .inl bm.1)), (ok, .inl (cK, 600, .inl km.1))]) [0, 1, 2] (by decide) rfl
  exact W.vret hx hb hr (fun t ht hW => ⟨⟨ym, rfl, (plX3_keepTry_0 st lo th bm km qm bd ym), by rw [ht]; exact hP9, hD9⟩, hS.F ht⟩) hS.2.2 dX3_keepTry_32
