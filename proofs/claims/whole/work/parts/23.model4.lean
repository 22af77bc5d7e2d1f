theorem al_end {st lo : Int32} : ∀ (n : Nat) (th : Int32) (bm : Bm) (km : Rw) (qm : Tk) (bd : Int32) (ym : Tk) (nn : Int32), alE st lo n th bm km qm bd ym → wok (LX3_alignAll_2 st lo n th bm km qm bd ym nn).2 40 := by
  intro n
  induction n with
  | zero => intro th bm km qm bd ym nn h; exact h.elim
  | succ n ih =>
    intro th bm km qm bd ym nn h
    rw [LX3_alignAll_2]; dsimp only
    by_cases c : (bm.2.1 - bm.2.1 / 8 * 8) = 0
    · rw [if_pos c]
      by_cases d : st = 1
      · rw [if_pos d]
        by_cases f : bm.2.2.2.2 = 0
        · rw [if_pos f]; exact h.1
        · rw [if_neg f]; exact ih _ _ _ _ _ _ _ (h.2 (Or.inr ⟨d, f⟩))
      · rw [if_neg d]; exact h.1
    · rw [if_neg c]; exact ih _ _ _ _ _ _ _ (h.2 (Or.inl c))
theorem al_endE {st lo th : Int32} {bm : Bm} {km : Rw} {qm : Tk} {bd : Int32} {ym : Tk} {u : Bm} {r : Int32} (h : alE st lo 17 th bm km qm bd ym) (e : (r, u) = FX3_alignAll st lo th bm km qm bd ym) : wok u 40 := by
  have q := al_end 17 th bm km qm bd ym 0 h
  have e2 : FX3_alignAll st lo th bm km qm bd ym = LX3_alignAll_2 st lo 17 th bm km qm bd ym 0 := rfl
  rw [← e2, ← e] at q; exact q
def mkOk (bm : Bm) (k : Int32) (d : Int) : Prop := 0 ≤ k.toInt ∧ k.toInt ≤ 8 ∧ wokI bm (d - k.toInt)
theorem mk_0 {bm : Bm} {d : Int} (h : wok bm 40) (hd : d ≤ 40) : mkOk bm 0 d := ⟨by decide, by decide, h.1, by have q := h.2; have z := i0; push_cast at q; omega⟩
theorem mk_wok {bm : Bm} {k : Int32} {d : Int} (h : mkOk bm k d) (c : ¬ 8 ≤ k) (hd : 8 ≤ d) : wok bm 1 := by
  obtain ⟨h1, h2, h3, h4⟩ := h
  rw [leI, i8] at c
  exact ⟨h3, by push_cast; omega⟩
theorem mk_next {bm : Bm} {k : Int32} (h : mkOk bm k 16) (c : 8 ≤ k) : mkOk bm 0 8 := by
  obtain ⟨h1, h2, h3, h4⟩ := h
  rw [leI, i8] at c
  exact ⟨by decide, by decide, h3, by have z := i0; omega⟩
theorem mk_back {st lo th : Int32} {bm : Bm} {km : Rw} {qm : Tk} {bd : Int32} {ym : Tk} {u : Bm} {k k' x : Int32} {d : Int} (h : mkOk bm k d) (c : ¬ 8 ≤ k) (hd : 8 ≤ d) (e : u = FX3_add st lo th bm km qm bd ym x) (ek : k' = k + 1) : mkOk u k' d := by
  have g := gw_add (st := st) (lo := lo) (th := th) (km := km) (qm := qm) (bd := bd) (ym := ym) (x := x) (mk_wok h c hd)
  rw [← e] at g
  obtain ⟨h1, h2, h3, h4⟩ := h
  have g1 := g.1; have g2 := g.2
  have c' := nle_lt c
  rw [leI, i8] at c
  have e1 : k'.toInt = k.toInt + 1 := by rw [ek]; exact i1 c'
  exact ⟨by omega, by omega, by omega, by omega⟩
def paL (bm : Bm) (p0 p1 i : Int32) : Prop := 0 ≤ p0.toInt ∧ p0.toInt + p1.toInt ≤ bm.2.1.toInt ∧ bm.2.1.toInt ≤ 5200 ∧ 0 ≤ i.toInt ∧ p1.toInt ≤ 32
theorem pa_in {bm : Bm} {p0 p1 i : Int32} (h : paL bm p0 p1 i) (c : ¬ p1 ≤ i) : vp_in (p0 + i) 5200 := by
  obtain ⟨h1, h2, h3, h4, h5⟩ := h
  rw [leI] at c
  have e : (p0 + i).toInt = p0.toInt + i.toInt := addI rfl (by omega) (by omega)
  exact inI (by omega) (by omega)
theorem pa_back {bm : Bm} {p0 p1 i i' : Int32} (h : paL bm p0 p1 i) (c : ¬ p1 ≤ i) (e : i' = i + 1) : paL bm p0 p1 i' := by
  obtain ⟨h1, h2, h3, h4, h5⟩ := h
  have e1 : i'.toInt = i.toInt + 1 := by rw [e]; exact i1 (nle_lt c)
  exact ⟨h1, h2, h3, by omega, h5⟩
theorem pa_of {bm : Bm} {p0 p1 r : Int32} (hW : wok bm 400) (e : r = FX3_isIn p1.toInt64 1 32) (h : ¬ r = 0) (c : ¬ p0 < 0) (d : lg_cmp (p0.toInt64 + p1.toInt64) bm.2.1.toInt64 ≤ 0) : paL bm p0 p1 0 := by
  have q := in32 e h
  rw [ltI, i0] at c
  have h1 := hW.1; have h2 := hW.2
  have p0b : p0.toInt < 2147483648 := Int32.toInt_lt p0
  have d1 : ¬ 0 < lg_cmp (p0.toInt64 + p1.toInt64) bm.2.1.toInt64 := by
    rw [ltI]; rw [leI] at d; omega
  rw [lcmp_ngt, Int64.le_iff_toInt_le, i2lI] at d1
  have e3 : (p0.toInt64 + p1.toInt64).toInt = p0.toInt + p1.toInt := by
    rw [Int64.toInt_add, i2lI, i2lI, Int.bmod_eq_of_le] <;> simp <;> omega
  exact ⟨by omega, by omega, by omega, by decide, by omega⟩
theorem by_of {st lo th : Int32} {bm : Bm} {km : Rw} {qm : Tk} {bd : Int32} {ym : Tk} {p0 r rb : Int32} (hW : wok bm 400) (eb : rb = FX3_bytesWritten st lo th bm km qm bd ym) (e : r = FX3_isIn p0.toInt64 0 (rb - 1).toInt64) (h : ¬ r = 0) : bOk bm.2.1 p0 := by
  have h1 := hW.1; have h2 := hW.2
  rw [e, isIn_iff, i2lI, i2lI] at h
  have e1 : (bm.2.1 + 7).toInt = bm.2.1.toInt + 7 := addI (by rw [show (7 : Int32).toInt = 7 from rfl]) (by omega) (by omega)
  have e2 : rb.toInt = (bm.2.1.toInt + 7) / 8 := by
    rw [eb, ← e1]; exact div8 (by omega)
  have e3 : (rb - 1).toInt = rb.toInt - 1 := subI (by rw [j1]) (by omega) (by omega)
  have z : (0 : Int64).toInt = 0 := rfl
  exact ⟨by omega, by omega, by omega⟩
def cOk (km : Rw) : Prop := 0 ≤ km.2.toInt ∧ km.2.toInt ≤ 600
theorem fd_in {km : Rw} (h : cOk km) (c : ¬ km.2 = 600) : vp_in km.2 600 := by
  rw [eqI] at c
  have z : (600 : Int32).toInt = 600 := rfl
  exact inI h.1 (by have := h.2; omega)
def psL (bm : Bm) (km : Rw) (p0 mn i : Int32) : Prop := wok bm 400 ∧ 0 ≤ p0.toInt ∧ 0 ≤ i.toInt ∧ p0.toInt + mn.toInt ≤ bm.2.1.toInt / 8 ∧ 0 ≤ km.2.toInt ∧ km.2.toInt + (mn.toInt - i.toInt) ≤ 600
theorem ps_b {bm : Bm} {km : Rw} {p0 mn i : Int32} (h : psL bm km p0 mn i) (c : ¬ mn ≤ i) : bOk bm.2.1 (p0 + i) := by
  obtain ⟨⟨h1, h2⟩, h3, h4, h5, h6, h7⟩ := h
  rw [leI] at c
  have e : (p0 + i).toInt = p0.toInt + i.toInt := addI rfl (by omega) (by omega)
  exact ⟨by omega, by omega, by omega⟩
theorem ps_in {bm : Bm} {km : Rw} {p0 mn i : Int32} (h : psL bm km p0 mn i) (c : ¬ mn ≤ i) : vp_in km.2 600 := by
  obtain ⟨-, h3, h4, h5, h6, h7⟩ := h
  rw [leI] at c
  exact inI h6 (by omega)
theorem ps_back {bm : Bm} {km km' : Rw} {p0 mn i i' : Int32} (h : psL bm km p0 mn i) (c : ¬ mn ≤ i) (ek : km'.2 = km.2 + 1) (e : i' = i + 1) : psL bm km' p0 mn i' := by
  obtain ⟨h0, h3, h4, h5, h6, h7⟩ := h
  have e1 : i'.toInt = i.toInt + 1 := by rw [e]; exact i1 (nle_lt c)
  rw [leI] at c
  have h0' := h0.1; have h0'' := h0.2
  have e2 : km'.2.toInt = km.2.toInt + 1 := by rw [ek]; exact addI (by rw [j1]) (by omega) (by omega)
  exact ⟨h0, h3, by omega, h5, by omega, by omega⟩
theorem ps_of1 {bm : Bm} {km : Rw} {p0 p1 wh r : Int32} (hW : wok bm 400) (hC : cOk km) (ew : wh = bm.2.1 / 8) (c : ¬ (wh - p0) ≤ p1) (e : r = FX3_isIn p0.toInt64 0 (wh - 1).toInt64) (h : ¬ r = 0) (c2 : 0 ≤ p1) (c3 : (km.2 + p1) ≤ 600) : psL bm km p0 p1 0 := by
  have h1 := hW.1; have h2 := hW.2; have h3 := hC.1; have h4 := hC.2
  have e1 : wh.toInt = bm.2.1.toInt / 8 := by rw [ew]; exact div8 h1
  have e3 : (wh - 1).toInt = wh.toInt - 1 := subI (by rw [j1]) (by omega) (by omega)
  rw [e, isIn_iff, i2lI, i2lI, e3] at h
  have z : (0 : Int64).toInt = 0 := rfl
  have z2 : (600 : Int32).toInt = 600 := rfl
  have e4 : (wh - p0).toInt = wh.toInt - p0.toInt := subI rfl (by omega) (by omega)
  rw [leI] at c c2 c3; rw [i0] at c2
  have e5 : (km.2 + p1).toInt = km.2.toInt + p1.toInt := addI rfl (by omega) (by omega)
  exact ⟨hW, by omega, by decide, by omega, by omega, by have z0 := i0; omega⟩
theorem ps_of2 {bm : Bm} {km : Rw} {p0 mn wh r : Int32} (hW : wok bm 400) (hC : cOk km) (ew : wh = bm.2.1 / 8) (em : mn = wh - p0) (e : r = FX3_isIn p0.toInt64 0 (wh - 1).toInt64) (h : ¬ r = 0) (c3 : (km.2 + mn) ≤ 600) : psL bm km p0 mn 0 := by
  have h1 := hW.1; have h2 := hW.2; have h3 := hC.1; have h4 := hC.2
  have e1 : wh.toInt = bm.2.1.toInt / 8 := by rw [ew]; exact div8 h1
  have e3 : (wh - 1).toInt = wh.toInt - 1 := subI (by rw [j1]) (by omega) (by omega)
  rw [e, isIn_iff, i2lI, i2lI, e3] at h
  have z : (0 : Int64).toInt = 0 := rfl
  have z2 : (600 : Int32).toInt = 600 := rfl
  have e4 : mn.toInt = wh.toInt - p0.toInt := by rw [em]; exact subI rfl (by omega) (by omega)
  rw [leI] at c3
  have e5 : (km.2 + mn).toInt = km.2.toInt + mn.toInt := addI rfl (by omega) (by omega)
  exact ⟨hW, by omega, by decide, by omega, by omega, by have z0 := i0; omega⟩
def LX3_mark_94 (st : Int32) (lo : Int32) : Nat → Int32 → Bm → Rw → Tk → Int32 → Tk → Int32 → Int32 → Int32 → Int32 → Int32 × Int32 × Bm
  | 0, th, bm, km, qm, bd, ym, p0, nn, pl, k => (0, th, bm)
  | n + 1, th, bm, km, qm, bd, ym, p0, nn, pl, k =>
    if 8 ≤ k then
      (pl, th, (bm.1, bm.2.1, bm.2.2.1, bm.2.2.2.1, 0))
    else
      if lo = 0 then
        if ((p0 >>> ((7 - k) &&& 31)) &&& 1) = 1 then
          let u_5 := FX3_add st lo th bm km qm bd ym 1
          let i_6 := k + 1
          LX3_mark_94 st lo n th u_5 km qm bd ym p0 nn pl i_6
        else
          let u_2 := FX3_add st lo th bm km qm bd ym 0
          let i_3 := k + 1
          LX3_mark_94 st lo n th u_2 km qm bd ym p0 nn pl i_3
      else
        if ((p0 >>> (k &&& 31)) &&& 1) = 1 then
          let u_11 := FX3_add st lo th bm km qm bd ym 1
          let i_12 := k + 1
          LX3_mark_94 st lo n th u_11 km qm bd ym p0 nn pl i_12
        else
          let u_8 := FX3_add st lo th bm km qm bd ym 0
          let i_9 := k + 1
          LX3_mark_94 st lo n th u_8 km qm bd ym p0 nn pl i_9
def LX3_mark_73 (st : Int32) (lo : Int32) : Nat → Int32 → Bm → Rw → Tk → Int32 → Tk → Int32 → Int32 → Int32 → Int32 → Int32 × Int32 × Bm
  | 0, th, bm, km, qm, bd, ym, p0, nn, pl, k => (0, th, bm)
  | n + 1, th, bm, km, qm, bd, ym, p0, nn, pl, k =>
    if 8 ≤ k then
      LX3_mark_94 st lo 9 th bm km qm bd ym p0 nn pl 0
    else
      let u_2 := FX3_add st lo th bm km qm bd ym 1
      let i_3 := k + 1
      LX3_mark_73 st lo n th u_2 km qm bd ym p0 nn pl i_3
def LX3_mark_45 (st : Int32) (lo : Int32) (th : Int32) (bm : Bm) (km : Rw) (qm : Tk) (bd : Int32) (ym : Tk) (p0 : Int32) (v : Int32) : Int32 × Int32 × Bm :=
  if v ≤ 0 then
    let zhw_2 := FX3_alignAll st lo v bm km qm bd ym
    let r_1 := zhw_2.1
    let u_3 := zhw_2.2
    let x_4 := u_3.2.1 / 8
    LX3_mark_73 st lo 9 v u_3 km qm bd ym p0 r_1 x_4 0
  else
    (0, v, bm)
def FX3_mark (st : Int32) (lo : Int32) (th : Int32) (bm : Bm) (km : Rw) (qm : Tk) (bd : Int32) (ym : Tk) (p0 : Int32) : Int32 × Int32 × Bm :=
  if st = 1 then
    let r_1 := FX3_isIn p0.toInt64 128 255
    if r_1 = 0 then
      LX3_mark_45 st lo th bm km qm bd ym p0 2
    else
      let r_3 := FX3_isFull st lo th bm km qm bd ym 32
      if r_3 = 0 then
        LX3_mark_45 st lo th bm km qm bd ym p0 0
      else
        LX3_mark_45 st lo th bm km qm bd ym p0 3
  else
    LX3_mark_45 st lo th bm km qm bd ym p0 1
set_option maxRecDepth 100000 in
theorem plX3_mark_l94_0 (st : Int32) (lo : Int32) (n : Nat) (th : Int32) (bm : Bm) (km : Rw) (qm : Tk) (bd : Int32) (ym : Tk) (p0 : Int32) (nn : Int32) (pl : Int32) (k : Int32) (c_98 : 8 ≤ k) : (pl, th, (bm.1, bm.2.1, bm.2.2.1, bm.2.2.2.1, 0)) = LX3_mark_94 st lo (n + 1) th bm km qm bd ym p0 nn pl k := by
  exact (if_pos c_98).symm
set_option maxRecDepth 100000 in
theorem plX3_mark_l94_1 (st : Int32) (lo : Int32) (n : Nat) (th : Int32) (bm : Bm) (km : Rw) (qm : Tk) (bd : Int32) (ym : Tk) (p0 : Int32) (nn : Int32) (pl : Int32) (k : Int32) (c_98 : ¬ (8 ≤ k)) (c_107 : lo = 0) (c_124 : ¬ (((p0 >>> ((7 - k) &&& 31)) &&& 1) = 1)) (u_2 : Bm) (hw_1 : u_2 = FX3_add st lo th bm km qm bd ym 0) (i_3 : Int32) (ei_3 : i_3 = k + 1) : LX3_mark_94 st lo n th u_2 km qm bd ym p0 nn pl i_3 = LX3_mark_94 st lo (n + 1) th bm km qm bd ym p0 nn pl k := by
  subst hw_1
  subst ei_3
  exact (((if_neg c_98).trans (if_pos c_107)).trans (if_neg c_124)).symm
set_option maxRecDepth 100000 in
theorem plX3_mark_l94_2 (st : Int32) (lo : Int32) (n : Nat) (th : Int32) (bm : Bm) (km : Rw) (qm : Tk) (bd : Int32) (ym : Tk) (p0 : Int32) (nn : Int32) (pl : Int32) (k : Int32) (c_98 : ¬ (8 ≤ k)) (c_107 : lo = 0) (c_124 : ((p0 >>> ((7 - k) &&& 31)) &&& 1) = 1) (u_5 : Bm) (hw_4 : u_5 = FX3_add st lo th bm km qm bd ym 1) (i_6 : Int32) (ei_6 : i_6 = k + 1) : LX3_mark_94 st lo n th u_5 km qm bd ym p0 nn pl i_6 = LX3_mark_94 st lo (n + 1) th bm km qm bd ym p0 nn pl k := by
  subst hw_4
  subst ei_6
  exact (((if_neg c_98).trans (if_pos c_107)).trans (if_pos c_124)).symm
set_option maxRecDepth 100000 in
theorem plX3_mark_l94_3 (st : Int32) (lo : Int32) (n : Nat) (th : Int32) (bm : Bm) (km : Rw) (qm : Tk) (bd : Int32) (ym : Tk) (p0 : Int32) (nn : Int32) (pl : Int32) (k : Int32) (c_98 : ¬ (8 ≤ k)) (c_107 : ¬ (lo = 0)) (c_124 : ¬ (((p0 >>> (k &&& 31)) &&& 1) = 1)) (u_8 : Bm) (hw_7 : u_8 = FX3_add st lo th bm km qm bd ym 0) (i_9 : Int32) (ei_9 : i_9 = k + 1) : LX3_mark_94 st lo n th u_8 km qm bd ym p0 nn pl i_9 = LX3_mark_94 st lo (n + 1) th bm km qm bd ym p0 nn pl k := by
  subst hw_7
  subst ei_9
  exact (((if_neg c_98).trans (if_neg c_107)).trans (if_neg c_124)).symm
set_option maxRecDepth 100000 in
theorem plX3_mark_l94_4 (st : Int32) (lo : Int32) (n : Nat) (th : Int32) (bm : Bm) (km : Rw) (qm : Tk) (bd : Int32) (ym : Tk) (p0 : Int32) (nn : Int32) (pl : Int32) (k : Int32) (c_98 : ¬ (8 ≤ k)) (c_107 : ¬ (lo = 0)) (c_124 : ((p0 >>> (k &&& 31)) &&& 1) = 1) (u_11 : Bm) (hw_10 : u_11 = FX3_add st lo th bm km qm bd ym 1) (i_12 : Int32) (ei_12 : i_12 = k + 1) : LX3_mark_94 st lo n th u_11 km qm bd ym p0 nn pl i_12 = LX3_mark_94 st lo (n + 1) th bm km qm bd ym p0 nn pl k := by
  subst hw_10
  subst ei_12
  exact (((if_neg c_98).trans (if_neg c_107)).trans (if_pos c_124)).symm
set_option maxRecDepth 100000 in
theorem plX3_mark_l73_0 (st : Int32) (lo : Int32) (n : Nat) (th : Int32) (bm : Bm) (km : Rw) (qm : Tk) (bd : Int32) (ym : Tk) (p0 : Int32) (nn : Int32) (pl : Int32) (k : Int32) (c_77 : 8 ≤ k) : LX3_mark_94 st lo 9 th bm km qm bd ym p0 nn pl 0 = LX3_mark_73 st lo (n + 1) th bm km qm bd ym p0 nn pl k := by
  exact (if_pos c_77).symm
set_option maxRecDepth 100000 in
theorem plX3_mark_l73_1 (st : Int32) (lo : Int32) (n : Nat) (th : Int32) (bm : Bm) (km : Rw) (qm : Tk) (bd : Int32) (ym : Tk) (p0 : Int32) (nn : Int32) (pl : Int32) (k : Int32) (c_77 : ¬ (8 ≤ k)) (u_2 : Bm) (hw_1 : u_2 = FX3_add st lo th bm km qm bd ym 1) (i_3 : Int32) (ei_3 : i_3 = k + 1) : LX3_mark_73 st lo n th u_2 km qm bd ym p0 nn pl i_3 = LX3_mark_73 st lo (n + 1) th bm km qm bd ym p0 nn pl k := by
  subst hw_1
  subst ei_3
  exact (if_neg c_77).symm
set_option maxRecDepth 100000 in
theorem plX3_mark_l45_0 (st : Int32) (lo : Int32) (th : Int32) (bm : Bm) (km : Rw) (qm : Tk) (bd : Int32) (ym : Tk) (p0 : Int32) (v : Int32) (c_52 : v ≤ 0) (r_1 : Int32) (u_3 : Bm) (hw_2 : (r_1, u_3) = FX3_alignAll st lo v bm km qm bd ym) (x_4 : Int32) (ex_4 : x_4 = u_3.2.1 / 8) : LX3_mark_73 st lo 9 v u_3 km qm bd ym p0 r_1 x_4 0 = LX3_mark_45 st lo th bm km qm bd ym p0 v := by
  have q0 := congrArg (fun z => z.1) hw_2
  have q1 := congrArg (fun z => z.2) hw_2
  dsimp only at q0 q1
  subst q0
  subst q1
  clear hw_2
  subst ex_4
  exact (if_pos c_52).symm
set_option maxRecDepth 100000 in
theorem plX3_mark_l45_1 (st : Int32) (lo : Int32) (th : Int32) (bm : Bm) (km : Rw) (qm : Tk) (bd : Int32) (ym : Tk) (p0 : Int32) (v : Int32) (c_52 : ¬ (v ≤ 0)) : (0, v, bm) = LX3_mark_45 st lo th bm km qm bd ym p0 v := by
  exact (if_neg c_52).symm
set_option maxRecDepth 100000 in
theorem plX3_mark_0 (st : Int32) (lo : Int32) (th : Int32) (bm : Bm) (km : Rw) (qm : Tk) (bd : Int32) (ym : Tk) (p0 : Int32) (c_6 : st = 1) (r_1 : Int32) (hw_2 : r_1 = FX3_isIn p0.toInt64 128 255) (c_24 : ¬ (r_1 = 0)) (r_3 : Int32) (hw_4 : r_3 = FX3_isFull st lo th bm km qm bd ym 32) (c_37 : r_3 = 0) : LX3_mark_45 st lo th bm km qm bd ym p0 0 = FX3_mark st lo th bm km qm bd ym p0 := by
  subst hw_2
  subst hw_4
  exact (((if_pos c_6).trans (if_neg c_24)).trans (if_pos c_37)).symm
set_option maxRecDepth 100000 in
theorem plX3_mark_1 (st : Int32) (lo : Int32) (th : Int32) (bm : Bm) (km : Rw) (qm : Tk) (bd : Int32) (ym : Tk) (p0 : Int32) (c_6 : st = 1) (r_1 : Int32) (hw_2 : r_1 = FX3_isIn p0.toInt64 128 255) (c_24 : ¬ (r_1 = 0)) (r_3 : Int32) (hw_4 : r_3 = FX3_isFull st lo th bm km qm bd ym 32) (c_37 : ¬ (r_3 = 0)) : LX3_mark_45 st lo th bm km qm bd ym p0 3 = FX3_mark st lo th bm km qm bd ym p0 := by
  subst hw_2
  subst hw_4
  exact (((if_pos c_6).trans (if_neg c_24)).trans (if_neg c_37)).symm
set_option maxRecDepth 100000 in
theorem plX3_mark_2 (st : Int32) (lo : Int32) (th : Int32) (bm : Bm) (km : Rw) (qm : Tk) (bd : Int32) (ym : Tk) (p0 : Int32) (c_6 : st = 1) (r_1 : Int32) (hw_2 : r_1 = FX3_isIn p0.toInt64 128 255) (c_24 : r_1 = 0) : LX3_mark_45 st lo th bm km qm bd ym p0 2 = FX3_mark st lo th bm km qm bd ym p0 := by
  subst hw_2
  exact ((if_pos c_6).trans (if_pos c_24)).symm
set_option maxRecDepth 100000 in
theorem plX3_mark_3 (st : Int32) (lo : Int32) (th : Int32) (bm : Bm) (km : Rw) (qm : Tk) (bd : Int32) (ym : Tk) (p0 : Int32) (c_6 : ¬ (st = 1)) : LX3_mark_45 st lo th bm km qm bd ym p0 1 = FX3_mark st lo th bm km qm bd ym p0 := by
  exact (if_neg c_6).symm
set_option maxHeartbeats 4000000 in
set_option maxRecDepth 100000 in
theorem kX3_mark_94 {p : Program} {l : Launch} {e : Env} {s : State} {m : MethodId} {args : Array Value} {below : List Frame} {meth : Method} {c : Code} {dC : Nat → ClassId} {dI : Nat → Nat → Nat} {cZ cK : ClassId} {om ob ok : Nat} {st : Int32} {lo : Int32} {z : Int32 × Int32 × Bm} {A : Nat → Prop} (hx : p.tables.exec = Jvm.exec) (hb : c.code = cX3_mark) (hr : meth.sig.returnType = (some .int)) (hml : c.maxLocals = 5) (hown : s.vm.findClass RX3 = some m.cls) (hts : ∀ w ∈ G, w.before args s = true) (hlocks : meth.locks = false) (hA : ∀ q : Nat, s.heap.size ≤ q → A q) (hZ : zOk s) (hK : va_K (dC, dI) vwCl [(cZ, .boolean), (cK, .int)] s) : ∀ (n : Nat) (th : Int32) (bm : Bm) (km : Rw) (qm : Tk) (bd : Int32) (ym : Tk) (p0 : Int32) (nn : Int32) (pl : Int32) (k : Int32), (fuel n k 8) → (mkOk bm k 8) → LX3_mark_94 st lo n th bm km qm bd ym p0 nn pl k = z → ∀ (H : Heap) (locs : List Loc), va_P (dC, dI) vwCl [(om, .inr (3, [.int th, .int st, .int lo, .ref ob, .int bm.2.1, .int bm.2.2.1, .int bm.2.2.2.1, .int bm.2.2.2.2, .ref ok, .int km.2, .int qm.1, .int qm.2.1, .int qm.2.2.1, .int qm.2.2.2, .int bd, .int ym.1, .int ym.2.1, .int ym.2.2.1, .int ym.2.2.2])), (ob, .inl (cZ, 5200, .inl bm.1)), (ok, .inl (cK, 600, .inl km.1))] H → va_D A [(om, .inr (3, [.int th, .int st, .int lo, .ref ob, .int bm.2.1, .int bm.2.2.1, .int bm.2.2.2.1, .int bm.2.2.2.2, .ref ok, .int km.2, .int qm.1, .int qm.2.1, .int qm.2.2.1, .int qm.2.2.2, .int bd, .int ym.1, .int ym.2.1, .int ym.2.2.1, .int ym.2.2.2])), (ob, .inl (cZ, 5200, .inl bm.1)), (ok, .inl (cK, 600, .inl km.1))] → va_S A s.heap H locs → ∀ (ls : Array Slot), lv_has ls 5 [(0, .ref om), (1, .int p0), (2, .int nn), (3, .int pl), (4, .int k)] → W p l e (headSpec (Cond.code yX3_mark cX3_mark 5 (some .int) :: G) ({ frames := 5, cells := 0, slots := 0, locals := 110 } : Room)).room s m args below meth c H locs 0 0 (MQ below (va_Qi (fun (r : Int32) (u : Int32 × Bm) => (r, u) = z) (fun (u : Int32 × Bm) (t : State) => va_P (dC, dI) vwCl [(om, .inr (3, [.int u.1, .int st, .int lo, .ref ob, .int u.2.2.1, .int u.2.2.2.1, .int u.2.2.2.2.1, .int u.2.2.2.2.2, .ref ok, .int km.2, .int qm.1, .int qm.2.1, .int qm.2.2.1, .int qm.2.2.2, .int bd, .int ym.1, .int ym.2.1, .int ym.2.2.1, .int ym.2.2.2])), (ob, .inl (cZ, 5200, .inl u.2.1)), (ok, .inl (cK, 600, .inl km.1))] t.heap ∧ va_D A [(om, .inr (3, [.int u.1, .int st, .int lo, .ref ob, .int u.2.2.1, .int u.2.2.2.1, .int u.2.2.2.2.1, .int u.2.2.2.2.2, .ref ok, .int km.2, .int qm.1, .int qm.2.1, .int qm.2.2.1, .int qm.2.2.2, .int bd, .int ym.1, .int ym.2.1, .int ym.2.2.1, .int ym.2.2.2])), (ob, .inl (cZ, 5200, .inl u.2.1)), (ok, .inl (cK, 600, .inl km.1))]) A) args s 0 0 A) (F0 m 94 ls []) := by
  intro n
  induction n with
  | zero =>
    intro th bm km qm bd ym p0 nn pl k hf hm hz
    exact absurd hf.1 (Nat.lt_irrefl 0)
  | succ n ih =>
    intro th bm km qm bd ym p0 nn pl k hf hm hz H locs hP hD hS ls hl
    refine lv_iload hx hb dX3_mark_94 (lv_at hl 4 rfl) ?_
    refine lv_bipush (v := 8) hx hb dX3_mark_96 (by decide) ?_
    refine lv_icmp_ge (tgt := 141) hx hb dX3_mark_98 (by decide) (fun c_98 => ?_) (fun c_98 => ?_)
    · refine lv_aload_n hx hb dX3_mark_141 rfl (lv_at hl 0 rfl) ?_
      refine lv_iconst (v := 0) hx hb dX3_mark_142 (by decide) ?_
      refine va_put (D := (dC, dI)) (ci := 3) (v := .int 0) (ty := .boolean) (C := RX3) (T := TX3) (N := 19) hx hb hts inGX3 tyX3 tyX3_ok nmX3 hown hK hP hD hS 0 rfl rfl 7 (by decide) (hts _ wd444) (fun _ h9 => h9) rfl (by decide +kernel) rfl rfl (Nat.le_of_ble_eq_true rfl) dX3_mark_143 (fun H locs hP hD hS => ?_)
      have hP : va_P (dC, dI) vwCl [(om, .inr (3, [.int th, .int st, .int lo, .ref ob, .int bm.2.1, .int bm.2.2.1, .int bm.2.2.2.1, .int 0, .ref ok, .int km.2, .int qm.1, .int qm.2.1, .int qm.2.2.1, .int qm.2.2.2, .int bd, .int ym.1, .int ym.2.1, .int ym.2.2.1, .int ym.2.2.2])), (ob, .inl (cZ, 5200, .inl bm.1)), (ok, .inl (cK, 600, .inl km.1))] H := hP
      have hD : va_D A [(om, .inr (3, [.int th, .int st, .int lo, .ref ob, .int bm.2.1, .int bm.2.2.1, .int bm.2.2.2.1, .int 0, .ref ok, .int km.2, .int qm.1, .int qm.2.1, .int qm.2.2.1, .int qm.2.2.2, .int bd, .int ym.1, .int ym.2.1, .int ym.2.2.1, .int ym.2.2.2])), (ob, .inl (cZ, 5200, .inl bm.1)), (ok, .inl (cK, 600, .inl km.1))] := hD
      refine lv_iload_n hx hb dX3_mark_146 rfl (lv_at hl 3 rfl) ?_
      have hP9 := hP.sub (ws' := [(om, .inr (3, [.int th, .int st, .int lo, .ref ob, .int bm.2.1, .int bm.2.2.1, .int bm.2.2.2.1, .int 0, .ref ok, .int km.2, .int qm.1, .int qm.2.1, .int qm.2.2.1, .int qm.2.2.2, .int bd, .int ym.1, .int ym.2.1, .int ym.2.2.1, .int ym.2.2.2])), (ob, .inl (cZ, 5200, .inl bm.1)), (ok, .inl (cK, 600, .inl km.1))]) [0, 1, 2] rfl
      have hD9 := hD.sub (ws' := [(om, .inr (3, [.int th, .int st, .int lo, .ref ob, .int bm.2.1, .int bm.2.2.1, .int bm.2.2.2.1, .int 0, .ref ok, .int km.2, .int qm.1, .int qm.2.1, .int qm.2.2.1, .int qm.2.2.2, .int bd, .int ym.1, .int ym.2.1, .int ym.2.2.1, .int ym.2.2.2])), (ob, .inl (cZ, 5200, .inl bm.1)), (ok, .inl (cK, 600, .inl km.1))]) [0, 1, 2] (by decide) rfl
      exact W.iret (v := pl) hx hb hr (fun t ht hW => ⟨⟨pl, (th, (bm.1, bm.2.1, bm.2.2.1, bm.2.2.2.1, 0)), rfl, ((plX3_mark_l94_0 st lo n th bm km qm bd ym p0 nn pl k c_98).trans hz), by rw [ht]; exact hP9, hD9⟩, hS.F ht⟩) hS.2.2 dX3_mark_147
    · refine lv_aload_n hx hb dX3_mark_101 rfl (lv_at hl 0 rfl) ?_
      refine lv_iload_n hx hb dX3_mark_102 rfl (lv_at hl 1 rfl) ?_
      refine lv_aload_n hx hb dX3_mark_103 rfl (lv_at hl 0 rfl) ?_
      refine va_get (D := (dC, dI)) (ci := 3) (v := .int lo) (C := RX3) (T := TX3) (N := 19) hx hb hts inGX3 hown hK hP 0 rfl rfl 2 (by decide) (hts _ wd439) (fun _ h9 => h9) rfl dX3_mark_104 ?_
      refine lv_if_eq (tgt := 115) hx hb dX3_mark_107 (by decide) (fun c_107 => ?_) (fun c_107 => ?_)
      · refine lv_bipush (v := 7) hx hb dX3_mark_115 (by decide) ?_
        refine lv_iload hx hb dX3_mark_117 (lv_at hl 4 rfl) ?_
        refine lv_isub hx hb dX3_mark_119 ?_
        refine lv_ishr hx hb dX3_mark_120 ?_
        refine lv_iconst (v := 1) hx hb dX3_mark_121 (by decide) ?_
        refine lv_iand hx hb dX3_mark_122 ?_
        refine lv_iconst (v := 1) hx hb dX3_mark_123 (by decide) ?_
        refine lv_icmp_ne (tgt := 131) hx hb dX3_mark_124 (by decide) (fun c_124 => ?_) (fun c_124 => ?_)
        · refine lv_iconst (v := 0) hx hb dX3_mark_131 (by decide) ?_
          have hPc := hP.sub (ws' := [(om, .inr (3, [.int th, .int st, .int lo, .ref ob, .int bm.2.1, .int bm.2.2.1, .int bm.2.2.2.1, .int bm.2.2.2.2, .ref ok, .int km.2, .int qm.1, .int qm.2.1, .int qm.2.2.1, .int qm.2.2.2, .int bd, .int ym.1, .int ym.2.1, .int ym.2.2.1, .int ym.2.2.2])), (ob, .inl (cZ, 5200, .inl bm.1)), (ok, .inl (cK, 600, .inl km.1))]) [0, 1, 2] rfl
          have hKc := hK.sub (tys' := [(cZ, .boolean), (cK, .int)]) [0, 1] rfl
          have hDc := hD.sub (ws' := [(om, .inr (3, [.int th, .int st, .int lo, .ref ob, .int bm.2.1, .int bm.2.2.1, .int bm.2.2.2.1, .int bm.2.2.2.2, .ref ok, .int km.2, .int qm.1, .int qm.2.1, .int qm.2.2.1, .int qm.2.2.2, .int bd, .int ym.1, .int ym.2.1, .int ym.2.2.1, .int ym.2.2.2])), (ob, .inl (cZ, 5200, .inl bm.1)), (ok, .inl (cK, 600, .inl km.1))]) [0, 1, 2] (by decide) rfl
          have hFc := va_free (wc := [(om, .inr (3, [.int th, .int st, .int lo, .ref ob, .int bm.2.1, .int bm.2.2.1, .int bm.2.2.2.1, .int bm.2.2.2.2, .ref ok, .int km.2, .int qm.1, .int qm.2.1, .int qm.2.2.1, .int qm.2.2.2, .int bd, .int ym.1, .int ym.2.1, .int ym.2.2.1, .int ym.2.2.2])), (ob, .inl (cZ, 5200, .inl bm.1)), (ok, .inl (cK, 600, .inl km.1))]) hD hS hA [0, 1, 2] rfl
          refine va_callv (va_runV (As := [.int 0]) (rest := []) ⟨hx, hb, hml, hown, hts⟩ (mX3_add l dC dI cZ cK om ob ok H.size st lo th bm km qm bd ym 0 (mk_wok hm c_98 (by decide))) (cwV 1 hts (gV wd517 wd518 wd14 wd30 wd519) rfl rfl rfl (by decide +kernel) ⟨Nat.le_of_ble_eq_true rfl, Nat.le_of_ble_eq_true rfl⟩) ⟨fb_rw, va_recv hKc hPc (ci := 3) (q0 := 0) rfl rfl, pre_rw hPc hKc hDc hZ⟩ rfl rfl hl.1 rfl (lv_room (Nat.le_of_ble_eq_true rfl)) dX3_mark_132 ⟨Nat.le_of_ble_eq_true rfl, Nat.le_of_ble_eq_true rfl⟩) hS (fun q _ h => hFc q h) hFc (fun u_2 t H1 locs ht hvm hw_1 hB hz1 hk1 hS => ?_)
          obtain ⟨hP1, hD1⟩ := hB
          rw [ht] at hP1
          obtain ⟨hP, hD⟩ := va_join (wr := []) (w1 := [(om, .inr (3, [.int th, .int st, .int lo, .ref ob, .int u_2.2.1, .int u_2.2.2.1, .int u_2.2.2.2.1, .int u_2.2.2.2.2, .ref ok, .int km.2, .int qm.1, .int qm.2.1, .int qm.2.2.1, .int qm.2.2.2, .int bd, .int ym.1, .int ym.2.1, .int ym.2.2.1, .int ym.2.2.2])), (ob, .inl (cZ, 5200, .inl u_2.1)), (ok, .inl (cK, 600, .inl km.1))]) hP hD [0, 1, 2] [] rfl rfl (by decide) (by decide) hk1 hFc hP1 hD1
          generalize H1 = H at hP hS ⊢
          have hP : va_P (dC, dI) vwCl [(om, .inr (3, [.int th, .int st, .int lo, .ref ob, .int u_2.2.1, .int u_2.2.2.1, .int u_2.2.2.2.1, .int u_2.2.2.2.2, .ref ok, .int km.2, .int qm.1, .int qm.2.1, .int qm.2.2.1, .int qm.2.2.2, .int bd, .int ym.1, .int ym.2.1, .int ym.2.2.1, .int ym.2.2.2])), (ob, .inl (cZ, 5200, .inl u_2.1)), (ok, .inl (cK, 600, .inl km.1))] H := hP
          have hD : va_D A [(om, .inr (3, [.int th, .int st, .int lo, .ref ob, .int u_2.2.1, .int u_2.2.2.1, .int u_2.2.2.2.1, .int u_2.2.2.2.2, .ref ok, .int km.2, .int qm.1, .int qm.2.1, .int qm.2.2.1, .int qm.2.2.2, .int bd, .int ym.1, .int ym.2.1, .int ym.2.2.1, .int ym.2.2.2])), (ob, .inl (cZ, 5200, .inl u_2.1)), (ok, .inl (cK, 600, .inl km.1))] := hD
          obtain ⟨i_3, ei_3⟩ : ∃ y : Int32, y = k + 1 := ⟨_, rfl⟩
          refine lv_iinc (v := i_3) (lv' := [(4, .int i_3), (0, .ref om), (1, .int p0), (2, .int nn), (3, .int pl)]) hx hb dX3_mark_135 hl (k := 4) rfl (by rw [ei_3]; rfl) (by decide) rfl (fun ls hl => ?_)
          refine lv_goto (tgt := 94) hx hb dX3_mark_138 (by decide) ?_
          exact ih th u_2 km qm bd ym p0 nn pl i_3 (fuel_step2 hf (nle_lt c_98) (by assumption)) (mk_back hm c_98 (by decide) (by assumption) (by assumption)) ((plX3_mark_l94_1 st lo n th bm km qm bd ym p0 nn pl k c_98 c_107 c_124 _ hw_1 _ ei_3).trans hz) _ _ (hP.sub (ws' := [(om, .inr (3, [.int th, .int st, .int lo, .ref ob, .int u_2.2.1, .int u_2.2.2.1, .int u_2.2.2.2.1, .int u_2.2.2.2.2, .ref ok, .int km.2, .int qm.1, .int qm.2.1, .int qm.2.2.1, .int qm.2.2.2, .int bd, .int ym.1, .int ym.2.1, .int ym.2.2.1, .int ym.2.2.2])), (ob, .inl (cZ, 5200, .inl u_2.1)), (ok, .inl (cK, 600, .inl km.1))]) [0, 1, 2] rfl) (hD.sub (ws' := [(om, .inr (3, [.int th, .int st, .int lo, .ref ob, .int u_2.2.1, .int u_2.2.2.1, .int u_2.2.2.2.1, .int u_2.2.2.2.2, .ref ok, .int km.2, .int qm.1, .int qm.2.1, .int qm.2.2.1, .int qm.2.2.2, .int bd, .int ym.1, .int ym.2.1, .int ym.2.2.1, .int ym.2.2.2])), (ob, .inl (cZ, 5200, .inl u_2.1)), (ok, .inl (cK, 600, .inl km.1))]) [0, 1, 2] (by decide) rfl) hS ls (lv_sub hl [1, 2, 3, 4, 0] rfl)
        · refine lv_iconst (v := 1) hx hb dX3_mark_127 (by decide) ?_
          refine lv_goto (tgt := 132) hx hb dX3_mark_128 (by decide) ?_
          have hPc := hP.sub (ws' := [(om, .inr (3, [.int th, .int st, .int lo, .ref ob, .int bm.2.1, .int bm.2.2.1, .int bm.2.2.2.1, .int bm.2.2.2.2, .ref ok, .int km.2, .int qm.1, .int qm.2.1, .int qm.2.2.1, .int qm.2.2.2, .int bd, .int ym.1, .int ym.2.1, .int ym.2.2.1, .int ym.2.2.2])), (ob, .inl (cZ, 5200, .inl bm.1)), (ok, .inl (cK, 600, .inl km.1))]) [0, 1, 2] rfl
          have hKc := hK.sub (tys' := [(cZ, .boolean), (cK, .int)]) [0, 1] rfl
          have hDc := hD.sub (ws' := [(om, .inr (3, [.int th, .int st, .int lo, .ref ob, .int bm.2.1, .int bm.2.2.1, .int bm.2.2.2.1, .int bm.2.2.2.2, .ref ok, .int km.2, .int qm.1, .int qm.2.1, .int qm.2.2.1, .int qm.2.2.2, .int bd, .int ym.1, .int ym.2.1, .int ym.2.2.1, .int ym.2.2.2])), (ob, .inl (cZ, 5200, .inl bm.1)), (ok, .inl (cK, 600, .inl km.1))]) [0, 1, 2] (by decide) rfl
          have hFc := va_free (wc := [(om, .inr (3, [.int th, .int st, .int lo, .ref ob, .int bm.2.1, .int bm.2.2.1, .int bm.2.2.2.1, .int bm.2.2.2.2, .ref ok, .int km.2, .int qm.1, .int qm.2.1, .int qm.2.2.1, .int qm.2.2.2, .int bd, .int ym.1, .int ym.2.1, .int ym.2.2.1, .int ym.2.2.2])), (ob, .inl (cZ, 5200, .inl bm.1)), (ok, .inl (cK, 600, .inl km.1))]) hD hS hA [0, 1, 2] rfl
          refine va_callv (va_runV (As := [.int 1]) (rest := []) ⟨hx, hb, hml, hown, hts⟩ (mX3_add l dC dI cZ cK om ob ok H.size st lo th bm km qm bd ym 1 (mk_wok hm c_98 (by decide))) (cwV 1 hts (gV wd517 wd518 wd14 wd30 wd519) rfl rfl rfl (by decide +kernel) ⟨Nat.le_of_ble_eq_true rfl, Nat.le_of_ble_eq_true rfl⟩) ⟨fb_rw, va_recv hKc hPc (ci := 3) (q0 := 0) rfl rfl, pre_rw hPc hKc hDc hZ⟩ rfl rfl hl.1 rfl (lv_room (Nat.le_of_ble_eq_true rfl)) dX3_mark_132 ⟨Nat.le_of_ble_eq_true rfl, Nat.le_of_ble_eq_true rfl⟩) hS (fun q _ h => hFc q h) hFc (fun u_5 t H1 locs ht hvm hw_4 hB hz1 hk1 hS => ?_)
          obtain ⟨hP1, hD1⟩ := hB
          rw [ht] at hP1
          obtain ⟨hP, hD⟩ := va_join (wr := []) (w1 := [(om, .inr (3, [.int th, .int st, .int lo, .ref ob, .int u_5.2.1, .int u_5.2.2.1, .int u_5.2.2.2.1, .int u_5.2.2.2.2, .ref ok, .int km.2, .int qm.1, .int qm.2.1, .int qm.2.2.1, .int qm.2.2.2, .int bd, .int ym.1, .int ym.2.1, .int ym.2.2.1, .int ym.2.2.2])), (ob, .inl (cZ, 5200, .inl u_5.1)), (ok, .inl (cK, 600, .inl km.1))]) hP hD [0, 1, 2] [] rfl rfl (by decide) (by decide) hk1 hFc hP1 hD1
          generalize H1 = H at hP hS ⊢
          have hP : va_P (dC, dI) vwCl [(om, .inr (3, [.int th, .int st, .int lo, .ref ob, .int u_5.2.1, .int u_5.2.2.1, .int u_5.2.2.2.1, .int u_5.2.2.2.2, .ref ok, .int km.2, .int qm.1, .int qm.2.1, .int qm.2.2.1, .int qm.2.2.2, .int bd, .int ym.1, .int ym.2.1, .int ym.2.2.1, .int ym.2.2.2])), (ob, .inl (cZ, 5200, .inl u_5.1)), (ok, .inl (cK, 600, .inl km.1))] H := hP
          have hD : va_D A [(om, .inr (3, [.int th, .int st, .int lo, .ref ob, .int u_5.2.1, .int u_5.2.2.1, .int u_5.2.2.2.1, .int u_5.2.2.2.2, .ref ok, .int km.2, .int qm.1, .int qm.2.1, .int qm.2.2.1, .int qm.2.2.2, .int bd, .int ym.1, .int ym.2.1, .int ym.2.2.1, .int ym.2.2.2])), (ob, .inl (cZ, 5200, .inl u_5.1)), (ok, .inl (cK, 600, .inl km.1))] := hD
          obtain ⟨i_6, ei_6⟩ : ∃ y : Int32, y = k + 1 := ⟨_, rfl⟩
          refine lv_iinc (v := i_6) (lv' := [(4, .int i_6), (0, .ref om), (1, .int p0), (2, .int nn), (3, .int pl)]) hx hb dX3_mark_135 hl (k := 4) rfl (by rw [ei_6]; rfl) (by decide) rfl (fun ls hl => ?_)
          refine lv_goto (tgt := 94) hx hb dX3_mark_138 (by decide) ?_
          exact ih th u_5 km qm bd ym p0 nn pl i_6 (fuel_step2 hf (nle_lt c_98) (by assumption)) (mk_back hm c_98 (by decide) (by assumption) (by assumption)) ((plX3_mark_l94_2 st lo n th bm km qm bd ym p0 nn pl k c_98 c_107 c_124 _ hw_4 _ ei_6).trans hz) _ _ (hP.sub (ws' := [(om, .inr (3, [.int th, .int st, .int lo, .ref ob, .int u_5.2.1, .int u_5.2.2.1, .int u_5.2.2.2.1, .int u_5.2.2.2.2, .ref ok, .int km.2, .int qm.1, .int qm.2.1, .int qm.2.2.1, .int qm.2.2.2, .int bd, .int ym.1, .int ym.2.1, .int ym.2.2.1, .int ym.2.2.2])), (ob, .inl (cZ, 5200, .inl u_5.1)), (ok, .inl (cK, 600, .inl km.1))]) [0, 1, 2] rfl) (hD.sub (ws' := [(om, .inr (3, [.int th, .int st, .int lo, .ref ob, .int u_5.2.1, .int u_5.2.2.1, .int u_5.2.2.2.1, .int u_5.2.2.2.2, .ref ok, .int km.2, .int qm.1, .int qm.2.1, .int qm.2.2.1, .int qm.2.2.2, .int bd, .int ym.1, .int ym.2.1, .int ym.2.2.1, .int ym.2.2.2])), (ob, .inl (cZ, 5200, .inl u_5.1)), (ok, .inl (cK, 600, .inl km.1))]) [0, 1, 2] (by decide) rfl) hS ls (lv_sub hl [1, 2, 3, 4, 0] rfl)
      · refine lv_iload hx hb dX3_mark_110 (lv_at hl 4 rfl) ?_
        refine lv_goto (tgt := 120) hx hb dX3_mark_112 (by decide) ?_
        refine lv_ishr hx hb dX3_mark_120 ?_
        refine lv_iconst (v := 1) hx hb dX3_mark_121 (by decide) ?_
        refine lv_iand hx hb dX3_mark_122 ?_
        refine lv_iconst (v := 1) hx hb dX3_mark_123 (by decide) ?_
        refine lv_icmp_ne (tgt := 131) hx hb dX3_mark_124 (by decide) (fun c_124 => ?_) (fun c_124 => ?_)
        · refine lv_iconst (v := 0) hx hb dX3_mark_131 (by decide) ?_
          have hPc := hP.sub (ws' := [(om, .inr (3, [.int th, .int st, .int lo, .ref ob, .int bm.2.1, .int bm.2.2.1, .int bm.2.2.2.1, .int bm.2.2.2.2, .ref ok, .int km.2, .int qm.1, .int qm.2.1, .int qm.2.2.1, .int qm.2.2.2, .int bd, .int ym.1, .int ym.2.1, .int ym.2.2.1, .int ym.2.2.2])), (ob, .inl (cZ, 5200, .inl bm.1)), (ok, .inl (cK, 600, .inl km.1))]) [0, 1, 2] rfl
          have hKc := hK.sub (tys' := [(cZ, .boolean), (cK, .int)]) [0, 1] rfl
          have hDc := hD.sub (ws' := [(om, .inr (3, [.int th, .int st, .int lo, .ref ob, .int bm.2.1, .int bm.2.2.1, .int bm.2.2.2.1, .int bm.2.2.2.2, .ref ok, .int km.2, .int qm.1, .int qm.2.1, .int qm.2.2.1, .int qm.2.2.2, .int bd, .int ym.1, .int ym.2.1, .int ym.2.2.1, .int ym.2.2.2])), (ob, .inl (cZ, 5200, .inl bm.1)), (ok, .inl (cK, 600, .inl km.1))]) [0, 1, 2] (by decide) rfl
          have hFc := va_free (wc := [(om, .inr (3, [.int th, .int st, .int lo, .ref ob, .int bm.2.1, .int bm.2.2.1, .int bm.2.2.2.1, .int bm.2.2.2.2, .ref ok, .int km.2, .int qm.1, .int qm.2.1, .int qm.2.2.1, .int qm.2.2.2, .int bd, .int ym.1, .int ym.2.1, .int ym.2.2.1, .int ym.2.2.2])), (ob, .inl (cZ, 5200, .inl bm.1)), (ok, .inl (cK, 600, .inl km.1))]) hD hS hA [0, 1, 2] rfl
          refine va_callv (va_runV (As := [.int 0]) (rest := []) ⟨hx, hb, hml, hown, hts⟩ (mX3_add l dC dI cZ cK om ob ok H.size st lo th bm km qm bd ym 0 (mk_wok hm c_98 (by decide))) (cwV 1 hts (gV wd517 wd518 wd14 wd30 wd519) rfl rfl rfl (by decide +kernel) ⟨Nat.le_of_ble_eq_true rfl, Nat.le_of_ble_eq_true rfl⟩) ⟨fb_rw, va_recv hKc hPc (ci := 3) (q0 := 0) rfl rfl, pre_rw hPc hKc hDc hZ⟩ rfl rfl hl.1 rfl (lv_room (Nat.le_of_ble_eq_true rfl)) dX3_mark_132 ⟨Nat.le_of_ble_eq_true rfl, Nat.le_of_ble_eq_true rfl⟩) hS (fun q _ h => hFc q h) hFc (fun u_8 t H1 locs ht hvm hw_7 hB hz1 hk1 hS => ?_)
          obtain ⟨hP1, hD1⟩ := hB
          rw [ht] at hP1
          obtain ⟨hP, hD⟩ := va_join (wr := []) (w1 := [(om, .inr (3, [.int th, .int st, .int lo, .ref ob, .int u_8.2.1, .int u_8.2.2.1, .int u_8.2.2.2.1, .int u_8.2.2.2.2, .ref ok, .int km.2, .int qm.1, .int qm.2.1, .int qm.2.2.1, .int qm.2.2.2, .int bd, .int ym.1, .int ym.2.1, .int ym.2.2.1, .int ym.2.2.2])), (ob, .inl (cZ, 5200, .inl u_8.1)), (ok, .inl (cK, 600, .inl km.1))]) hP hD [0, 1, 2] [] rfl rfl (by decide) (by decide) hk1 hFc hP1 hD1
          generalize H1 = H at hP hS ⊢
          have hP : va_P (dC, dI) vwCl [(om, .inr (3, [.int th, .int st, .int lo, .ref ob, .int u_8.2.1, .int u_8.2.2.1, .int u_8.2.2.2.1, .int u_8.2.2.2.2, .ref ok, .int km.2, .int qm.1, .int qm.2.1, .int qm.2.2.1, .int qm.2.2.2, .int bd, .int ym.1, .int ym.2.1, .int ym.2.2.1, .int ym.2.2.2])), (ob, .inl (cZ, 5200, .inl u_8.1)), (ok, .inl (cK, 600, .inl km.1))] H := hP
          have hD : va_D A [(om, .inr (3, [.int th, .int st, .int lo, .ref ob, .int u_8.2.1, .int u_8.2.2.1, .int u_8.2.2.2.1, .int u_8.2.2.2.2, .ref ok, .int km.2, .int qm.1, .int qm.2.1, .int qm.2.2.1, .int qm.2.2.2, .int bd, .int ym.1, .int ym.2.1, .int ym.2.2.1, .int ym.2.2.2])), (ob, .inl (cZ, 5200, .inl u_8.1)), (ok, .inl (cK, 600, .inl km.1))] := hD
          obtain ⟨i_9, ei_9⟩ : ∃ y : Int32, y = k + 1 := ⟨_, rfl⟩
          refine lv_iinc (v := i_9) (lv' := [(4, .int i_9), (0, .ref om), (1, .int p0), (2, .int nn), (3, .int pl)]) hx hb dX3_mark_135 hl (k := 4) rfl (by rw [ei_9]; rfl) (by decide) rfl (fun ls hl => ?_)
          refine lv_goto (tgt := 94) hx hb dX3_mark_138 (by decide) ?_
          exact ih th u_8 km qm bd ym p0 nn pl i_9 (fuel_step2 hf (nle_lt c_98) (by assumption)) (mk_back hm c_98 (by decide) (by assumption) (by assumption)) ((plX3_mark_l94_3 st lo n th bm km qm bd ym p0 nn pl k c_98 c_107 c_124 _ hw_7 _ ei_9).trans hz) _ _ (hP.sub (ws' := [(om, .inr (3, [.int th, .int st, .int lo, .ref ob, .int u_8.2.1, .int u_8.2.2.1, .int u_8.2.2.2.1, .int u_8.2.2.2.2, .ref ok, .int km.2, .int qm.1, .int qm.2.1, .int qm.2.2.1, .int qm.2.2.2, .int bd, .int ym.1, .int ym.2.1, .int ym.2.2.1, .int ym.2.2.2])), (ob, .inl (cZ, 5200, .inl u_8.1)), (ok, .inl (cK, 600, .inl km.1))]) [0, 1, 2] rfl) (hD.sub (ws' := [(om, .inr (3, [.int th, .int st, .int lo, .ref ob, .int u_8.2.1, .int u_8.2.2.1, .int u_8.2.2.2.1, .int u_8.2.2.2.2, .ref ok, .int km.2, .int qm.1, .int qm.2.1, .int qm.2.2.1, .int qm.2.2.2, .int bd, .int ym.1, .int ym.2.1, .int ym.2.2.1, .int ym.2.2.2])), (ob, .inl (cZ, 5200, .inl u_8.1)), (ok, .inl (cK, 600, .inl km.1))]) [0, 1, 2] (by decide) rfl) hS ls (lv_sub hl [1, 2, 3, 4, 0] rfl)
        · refine lv_iconst (v := 1) hx hb dX3_mark_127 (by decide) ?_
          refine lv_goto (tgt := 132) hx hb dX3_mark_128 (by decide) ?_
          have hPc := hP.sub (ws' := [(om, .inr (3, [.int th, .int st, .int lo, .ref ob, .int bm.2.1, .int bm.2.2.1, .int bm.2.2.2.1, .int bm.2.2.2.2, .ref ok, .int km.2, .int qm.1, .int qm.2.1, .int qm.2.2.1, .int qm.2.2.2, .int bd, .int ym.1, .int ym.2.1, .int ym.2.2.1, .int ym.2.2.2])), (ob, .inl (cZ, 5200, .inl bm.1)), (ok, .inl (cK, 600, .inl km.1))]) [0, 1, 2] rfl
          have hKc := hK.sub (tys' := [(cZ, .boolean), (cK, .int)]) [0, 1] rfl
          have hDc := hD.sub (ws' := [(om, .inr (3, [.int th, .int st, .int lo, .ref ob, .int bm.2.1, .int bm.2.2.1, .int bm.2.2.2.1, .int bm.2.2.2.2, .ref ok, .int km.2, .int qm.1, .int qm.2.1, .int qm.2.2.1, .int qm.2.2.2, .int bd, .int ym.1, .int ym.2.1, .int ym.2.2.1, .int ym.2.2.2])), (ob, .inl (cZ, 5200, .inl bm.1)), (ok, .inl (cK, 600, .inl km.1))]) [0, 1, 2] (by decide) rfl
          have hFc := va_free (wc := [(om, .inr (3, [.int th, .int st, .int lo, .ref ob, .int bm.2.1, .int bm.2.2.1, .int bm.2.2.2.1, .int bm.2.2.2.2, .ref ok, .int km.2, .int qm.1, .int qm.2.1, .int qm.2.2.1, .int qm.2.2.2, .int bd, .int ym.1, .int ym.2.1, .int ym.2.2.1, .int ym.2.2.2])), (ob, .inl (cZ, 5200, .inl bm.1)), (ok, .inl (cK, 600, .inl km.1))]) hD hS hA [0, 1, 2] rfl
          refine va_callv (va_runV (As := [.int 1]) (rest := []) ⟨hx, hb, hml, hown, hts⟩ (mX3_add l dC dI cZ cK om ob ok H.size st lo th bm km qm bd ym 1 (mk_wok hm c_98 (by decide))) (cwV 1 hts (gV wd517 wd518 wd14 wd30 wd519) rfl rfl rfl (by decide +kernel) ⟨Nat.le_of_ble_eq_true rfl, Nat.le_of_ble_eq_true rfl⟩) ⟨fb_rw, va_recv hKc hPc (ci := 3) (q0 := 0) rfl rfl, pre_rw hPc hKc hDc hZ⟩ rfl rfl hl.1 rfl (lv_room (Nat.le_of_ble_eq_true rfl)) dX3_mark_132 ⟨Nat.le_of_ble_eq_true rfl, Nat.le_of_ble_eq_true rfl⟩) hS (fun q _ h => hFc q h) hFc (fun u_11 t H1 locs ht hvm hw_10 hB hz1 hk1 hS => ?_)
          obtain ⟨hP1, hD1⟩ := hB
          rw [ht] at hP1
          obtain ⟨hP, hD⟩ := va_join (wr := []) (w1 := [(om, .inr (3, [.int th, .int st, .int lo, .ref ob, .int u_11.2.1, .int u_11.2.2.1, .int u_11.2.2.2.1, .int u_11.2.2.2.2, .ref ok, .int km.2, .int qm.1, .int qm.2.1, .int qm.2.2.1, .int qm.2.2.2, .int bd, .int ym.1, .int ym.2.1, .int ym.2.2.1, .int ym.2.2.2])), (ob, .inl (cZ, 5200, .inl u_11.1)), (ok, .inl (cK, 600, .inl km.1))]) hP hD [0, 1, 2] [] rfl rfl (by decide) (by decide) hk1 hFc hP1 hD1
          generalize H1 = H at hP hS ⊢
          have hP : va_P (dC, dI) vwCl [(om, .inr (3, [.int th, .int st, .int lo, .ref ob, .int u_11.2.1, .int u_11.2.2.1, .int u_11.2.2.2.1, .int u_11.2.2.2.2, .ref ok, .int km.2, .int qm.1, .int qm.2.1, .int qm.2.2.1, .int qm.2.2.2, .int bd, .int ym.1, .int ym.2.1, .int ym.2.2.1, .int ym.2.2.2])), (ob, .inl (cZ, 5200, .inl u_11.1)), (ok, .inl (cK, 600, .inl km.1))] H := hP
          have hD : va_D A [(om, .inr (3, [.int th, .int st, .int lo, .ref ob, .int u_11.2.1, .int u_11.2.2.1, .int u_11.2.2.2.1, .int u_11.2.2.2.2, .ref ok, .int km.2, .int qm.1, .int qm.2.1, .int qm.2.2.1, .int qm.2.2.2, .int bd, .int ym.1, .int ym.2.1, .int ym.2.2.1, .int ym.2.2.2])), (ob, .inl (cZ, 5200, .inl u_11.1)), (ok, .inl (cK, 600, .inl km.1))] := hD
          obtain ⟨i_12, ei_12⟩ : ∃ y : Int32, y = k + 1 := ⟨_, rfl⟩
          refine lv_iinc (v := i_12) (lv' := [(4, .int i_12), (0, .ref om), (1, .int p0), (2, .int nn), (3, .int pl)]) hx hb dX3_mark_135 hl (k := 4) rfl (by rw [ei_12]; rfl) (by decide) rfl (fun ls hl => ?_)
          refine lv_goto (tgt := 94) hx hb dX3_mark_138 (by decide) ?_
          exact ih th u_11 km qm bd ym p0 nn pl i_12 (fuel_step2 hf (nle_lt c_98) (by assumption)) (mk_back hm c_98 (by decide) (by assumption) (by assumption)) ((plX3_mark_l94_4 st lo n th bm km qm bd ym p0 nn pl k c_98 c_107 c_124 _ hw_10 _ ei_12).trans hz) _ _ (hP.sub (ws' := [(om, .inr (3, [.int th, .int st, .int lo, .ref ob, .int u_11.2.1, .int u_11.2.2.1, .int u_11.2.2.2.1, .int u_11.2.2.2.2, .ref ok, .int km.2, .int qm.1, .int qm.2.1, .int qm.2.2.1, .int qm.2.2.2, .int bd, .int ym.1, .int ym.2.1, .int ym.2.2.1, .int ym.2.2.2])), (ob, .inl (cZ, 5200, .inl u_11.1)), (ok, .inl (cK, 600, .inl km.1))]) [0, 1, 2] rfl) (hD.sub (ws' := [(om, .inr (3, [.int th, .int st, .int lo, .ref ob, .int u_11.2.1, .int u_11.2.2.1, .int u_11.2.2.2.1, .int u_11.2.2.2.2, .ref ok, .int km.2, .int qm.1, .int qm.2.1, .int qm.2.2.1, .int qm.2.2.2, .int bd, .int ym.1, .int ym.2.1, .int ym.2.2.1, .int ym.2.2.2])), (ob, .inl (cZ, 5200, .inl u_11.1)), (ok, .inl (cK, 600, .inl km.1))]) [0, 1, 2] (by decide) rfl) hS ls (lv_sub hl [1, 2, 3, 4, 0] rfl)
set_option maxHeartbeats 4000000 in
set_option maxRecDepth 100000 in
theorem kX3_mark_73 {p : Program} {l : Launch} {e : Env} {s : State} {m : MethodId} {args : Array Value} {below : List Frame} {meth : Method} {c : Code} {dC : Nat → ClassId} {dI : Nat → Nat → Nat} {cZ cK : ClassId} {om ob ok : Nat} {st : Int32} {lo : Int32} {z : Int32 × Int32 × Bm} {A : Nat → Prop} (hx : p.tables.exec = Jvm.exec) (hb : c.code = cX3_mark) (hr : meth.sig.returnType = (some .int)) (hml : c.maxLocals = 5) (hown : s.vm.findClass RX3 = some m.cls) (hts : ∀ w ∈ G, w.before args s = true) (hlocks : meth.locks = false) (hA : ∀ q : Nat, s.heap.size ≤ q → A q) (hZ : zOk s) (hK : va_K (dC, dI) vwCl [(cZ, .boolean), (cK, .int)] s) : ∀ (n : Nat) (th : Int32) (bm : Bm) (km : Rw) (qm : Tk) (bd : Int32) (ym : Tk) (p0 : Int32) (nn : Int32) (pl : Int32) (k : Int32), (fuel n k 8) → (mkOk bm k 16) → LX3_mark_73 st lo n th bm km qm bd ym p0 nn pl k = z → ∀ (H : Heap) (locs : List Loc), va_P (dC, dI) vwCl [(om, .inr (3, [.int th, .int st, .int lo, .ref ob, .int bm.2.1, .int bm.2.2.1, .int bm.2.2.2.1, .int bm.2.2.2.2, .ref ok, .int km.2, .int qm.1, .int qm.2.1, .int qm.2.2.1, .int qm.2.2.2, .int bd, .int ym.1, .int ym.2.1, .int ym.2.2.1, .int ym.2.2.2])), (ob, .inl (cZ, 5200, .inl bm.1)), (ok, .inl (cK, 600, .inl km.1))] H → va_D A [(om, .inr (3, [.int th, .int st, .int lo, .ref ob, .int bm.2.1, .int bm.2.2.1, .int bm.2.2.2.1, .int bm.2.2.2.2, .ref ok, .int km.2, .int qm.1, .int qm.2.1, .int qm.2.2.1, .int qm.2.2.2, .int bd, .int ym.1, .int ym.2.1, .int ym.2.2.1, .int ym.2.2.2])), (ob, .inl (cZ, 5200, .inl bm.1)), (ok, .inl (cK, 600, .inl km.1))] → va_S A s.heap H locs → ∀ (ls : Array Slot), lv_has ls 5 [(0, .ref om), (1, .int p0), (2, .int nn), (3, .int pl), (4, .int k)] → W p l e (headSpec (Cond.code yX3_mark cX3_mark 5 (some .int) :: G) ({ frames := 5, cells := 0, slots := 0, locals := 110 } : Room)).room s m args below meth c H locs 0 0 (MQ below (va_Qi (fun (r : Int32) (u : Int32 × Bm) => (r, u) = z) (fun (u : Int32 × Bm) (t : State) => va_P (dC, dI) vwCl [(om, .inr (3, [.int u.1, .int st, .int lo, .ref ob, .int u.2.2.1, .int u.2.2.2.1, .int u.2.2.2.2.1, .int u.2.2.2.2.2, .ref ok, .int km.2, .int qm.1, .int qm.2.1, .int qm.2.2.1, .int qm.2.2.2, .int bd, .int ym.1, .int ym.2.1, .int ym.2.2.1, .int ym.2.2.2])), (ob, .inl (cZ, 5200, .inl u.2.1)), (ok, .inl (cK, 600, .inl km.1))] t.heap ∧ va_D A [(om, .inr (3, [.int u.1, .int st, .int lo, .ref ob, .int u.2.2.1, .int u.2.2.2.1, .int u.2.2.2.2.1, .int u.2.2.2.2.2, .ref ok, .int km.2, .int qm.1, .int qm.2.1, .int qm.2.2.1, .int qm.2.2.2, .int bd, .int ym.1, .int ym.2.1, .int ym.2.2.1, .int ym.2.2.2])), (ob, .inl (cZ, 5200, .inl u.2.1)), (ok, .inl (cK, 600, .inl km.1))]) A) args s 0 0 A) (F0 m 73 ls []) := by
  intro n
  induction n with
  | zero =>
    intro th bm km qm bd ym p0 nn pl k hf hm hz
    exact absurd hf.1 (Nat.lt_irrefl 0)
  | succ n ih =>
    intro th bm km qm bd ym p0 nn pl k hf hm hz H locs hP hD hS ls hl
    refine lv_iload hx hb dX3_mark_73 (lv_at hl 4 rfl) ?_
    refine lv_bipush (v := 8) hx hb dX3_mark_75 (by decide) ?_
    refine lv_icmp_ge (tgt := 91) hx hb dX3_mark_77 (by decide) (fun c_77 => ?_) (fun c_77 => ?_)
    · refine lv_iconst (v := 0) hx hb dX3_mark_91 (by decide) ?_
      refine lv_istore (lv' := [(4, .int 0), (0, .ref om), (1, .int p0), (2, .int nn), (3, .int pl)]) hx hb dX3_mark_92 hl (by decide) rfl (fun ls hl => ?_)
      exact kX3_mark_94 hx hb hr hml hown hts hlocks hA hZ hK 9 th bm km qm bd ym p0 nn pl 0 (fuel_of (by decide) (by decide)) (mk_next hm c_77) ((plX3_mark_l73_0 st lo n th bm km qm bd ym p0 nn pl k c_77).trans hz) _ _ (hP.sub (ws' := [(om, .inr (3, [.int th, .int st, .int lo, .ref ob, .int bm.2.1, .int bm.2.2.1, .int bm.2.2.2.1, .int bm.2.2.2.2, .ref ok, .int km.2, .int qm.1, .int qm.2.1, .int qm.2.2.1, .int qm.2.2.2, .int bd, .int ym.1, .int ym.2.1, .int ym.2.2.1, .int ym.2.2.2])), (ob, .inl (cZ, 5200, .inl bm.1)), (ok, .inl (cK, 600, .inl km.1))]) [0, 1, 2] rfl) (hD.sub (ws' := [(om, .inr (3, [.int th, .int st, .int lo, .ref ob, .int bm.2.1, .int bm.2.2.1, .int bm.2.2.2.1, .int bm.2.2.2.2, .ref ok, .int km.2, .int qm.1, .int qm.2.1, .int qm.2.2.1, .int qm.2.2.2, .int bd, .int ym.1, .int ym.2.1, .int ym.2.2.1, .int ym.2.2.2])), (ob, .inl (cZ, 5200, .inl bm.1)), (ok, .inl (cK, 600, .inl km.1))]) [0, 1, 2] (by decide) rfl) hS ls (lv_sub hl [1, 2, 3, 4, 0] rfl)
    · refine lv_aload_n hx hb dX3_mark_80 rfl (lv_at hl 0 rfl) ?_
      refine lv_iconst (v := 1) hx hb dX3_mark_81 (by decide) ?_
      have hPc := hP.sub (ws' := [(om, .inr (3, [.int th, .int st, .int lo, .ref ob, .int bm.2.1, .int bm.2.2.1, .int bm.2.2.2.1, .int bm.2.2.2.2, .ref ok, .int km.2, .int qm.1, .int qm.2.1, .int qm.2.2.1, .int qm.2.2.2, .int bd, .int ym.1, .int ym.2.1, .int ym.2.2.1, .int ym.2.2.2])), (ob, .inl (cZ, 5200, .inl bm.1)), (ok, .inl (cK, 600, .inl km.1))]) [0, 1, 2] rfl
      have hKc := hK.sub (tys' := [(cZ, .boolean), (cK, .int)]) [0, 1] rfl
      have hDc := hD.sub (ws' := [(om, .inr (3, [.int th, .int st, .int lo, .ref ob, .int bm.2.1, .int bm.2.2.1, .int bm.2.2.2.1, .int bm.2.2.2.2, .ref ok, .int km.2, .int qm.1, .int qm.2.1, .int qm.2.2.1, .int qm.2.2.2, .int bd, .int ym.1, .int ym.2.1, .int ym.2.2.1, .int ym.2.2.2])), (ob, .inl (cZ, 5200, .inl bm.1)), (ok, .inl (cK, 600, .inl km.1))]) [0, 1, 2] (by decide) rfl
      have hFc := va_free (wc := [(om, .inr (3, [.int th, .int st, .int lo, .ref ob, .int bm.2.1, .int bm.2.2.1, .int bm.2.2.2.1, .int bm.2.2.2.2, .ref ok, .int km.2, .int qm.1, .int qm.2.1, .int qm.2.2.1, .int qm.2.2.2, .int bd, .int ym.1, .int ym.2.1, .int ym.2.2.1, .int ym.2.2.2])), (ob, .inl (cZ, 5200, .inl bm.1)), (ok, .inl (cK, 600, .inl km.1))]) hD hS hA [0, 1, 2] rfl
      refine va_callv (va_runV (As := [.int 1]) (rest := []) ⟨hx, hb, hml, hown, hts⟩ (mX3_add l dC dI cZ cK om ob ok H.size st lo th bm km qm bd ym 1 (mk_wok hm c_77 (by decide))) (cwV 1 hts (gV wd517 wd518 wd14 wd30 wd519) rfl rfl rfl (by decide +kernel) ⟨Nat.le_of_ble_eq_true rfl, Nat.le_of_ble_eq_true rfl⟩) ⟨fb_rw, va_recv hKc hPc (ci := 3) (q0 := 0) rfl rfl, pre_rw hPc hKc hDc hZ⟩ rfl rfl hl.1 rfl (lv_room (Nat.le_of_ble_eq_true rfl)) dX3_mark_82 ⟨Nat.le_of_ble_eq_true rfl, Nat.le_of_ble_eq_true rfl⟩) hS (fun q _ h => hFc q h) hFc (fun u_2 t H1 locs ht hvm hw_1 hB hz1 hk1 hS => ?_)
      obtain ⟨hP1, hD1⟩ := hB
      rw [ht] at hP1
      obtain ⟨hP, hD⟩ := va_join (wr := []) (w1 := [(om, .inr (3, [.int th, .int st, .int lo, .ref ob, .int u_2.2.1, .int u_2.2.2.1, .int u_2.2.2.2.1, .int u_2.2.2.2.2, .ref ok, .int km.2, .int qm.1, .int qm.2.1, .int qm.2.2.1, .int qm.2.2.2, .int bd, .int ym.1, .int ym.2.1, .int ym.2.2.1, .int ym.2.2.2])), (ob, .inl (cZ, 5200, .inl u_2.1)), (ok, .inl (cK, 600, .inl km.1))]) hP hD [0, 1, 2] [] rfl rfl (by decide) (by decide) hk1 hFc hP1 hD1
      generalize H1 = H at hP hS ⊢
      have hP : va_P (dC, dI) vwCl [(om, .inr (3, [.int th, .int st, .int lo, .ref ob, .int u_2.2.1, .int u_2.2.2.1, .int u_2.2.2.2.1, .int u_2.2.2.2.2, .ref ok, .int km.2, .int qm.1, .int qm.2.1, .int qm.2.2.1, .int qm.2.2.2, .int bd, .int ym.1, .int ym.2.1, .int ym.2.2.1, .int ym.2.2.2])), (ob, .inl (cZ, 5200, .inl u_2.1)), (ok, .inl (cK, 600, .inl km.1))] H := hP
      have hD : va_D A [(om, .inr (3, [.int th, .int st, .int lo, .ref ob, .int u_2.2.1, .int u_2.2.2.1, .int u_2.2.2.2.1, .int u_2.2.2.2.2, .ref ok, .int km.2, .int qm.1, .int qm.2.1, .int qm.2.2.1, .int qm.2.2.2, .int bd, .int ym.1, .int ym.2.1, .int ym.2.2.1, .int ym.2.2.2])), (ob, .inl (cZ, 5200, .inl u_2.1)), (ok, .inl (cK, 600, .inl km.1))] := hD
      obtain ⟨i_3, ei_3⟩ : ∃ y : Int32, y = k + 1 := ⟨_, rfl⟩
      refine lv_iinc (v := i_3) (lv' := [(4, .int i_3), (0, .ref om), (1, .int p0), (2, .int nn), (3, .int pl)]) hx hb dX3_mark_85 hl (k := 4) rfl (by rw [ei_3]; rfl) (by decide) rfl (fun ls hl => ?_)
      refine lv_goto (tgt := 73) hx hb dX3_mark_88 (by decide) ?_
      exact ih th u_2 km qm bd ym p0 nn pl i_3 (fuel_step2 hf (nle_lt c_77) (by assumption)) (mk_back hm c_77 (by decide) (by assumption) (by assumption)) ((plX3_mark_l73_1 st lo n th bm km qm bd ym p0 nn pl k c_77 _ hw_1 _ ei_3).trans hz) _ _ (hP.sub (ws' := [(om, .inr (3, [.int th, .int st, .int lo, .ref ob, .int u_2.2.1, .int u_2.2.2.1, .int u_2.2.2.2.1, .int u_2.2.2.2.2, .ref ok, .int km.2, .int qm.1, .int qm.2.1, .int qm.2.2.1, .int qm.2.2.2, .int bd, .int ym.1, .int ym.2.1, .int ym.2.2.1, .int ym.2.2.2])), (ob, .inl (cZ, 5200, .inl u_2.1)), (ok, .inl (cK, 600, .inl km.1))]) [0, 1, 2] rfl) (hD.sub (ws' := [(om, .inr (3, [.int th, .int st, .int lo, .ref ob, .int u_2.2.1, .int u_2.2.2.1, .int u_2.2.2.2.1, .int u_2.2.2.2.2, .ref ok, .int km.2, .int qm.1, .int qm.2.1, .int qm.2.2.1, .int qm.2.2.2, .int bd, .int ym.1, .int ym.2.1, .int ym.2.2.1, .int ym.2.2.2])), (ob, .inl (cZ, 5200, .inl u_2.1)), (ok, .inl (cK, 600, .inl km.1))]) [0, 1, 2] (by decide) rfl) hS ls (lv_sub hl [1, 2, 3, 4, 0] rfl)
set_option maxHeartbeats 4000000 in
set_option maxRecDepth 100000 in
theorem kX3_mark_45 {p : Program} {l : Launch} {e : Env} {s : State} {m : MethodId} {args : Array Value} {below : List Frame} {meth : Method} {c : Code} {dC : Nat → ClassId} {dI : Nat → Nat → Nat} {cZ cK : ClassId} {om ob ok : Nat} {st : Int32} {lo : Int32} {z : Int32 × Int32 × Bm} {A : Nat → Prop} (hx : p.tables.exec = Jvm.exec) (hb : c.code = cX3_mark) (hr : meth.sig.returnType = (some .int)) (hml : c.maxLocals = 5) (hown : s.vm.findClass RX3 = some m.cls) (hts : ∀ w ∈ G, w.before args s = true) (hlocks : meth.locks = false) (hA : ∀ q : Nat, s.heap.size ≤ q → A q) (hZ : zOk s) (hK : va_K (dC, dI) vwCl [(cZ, .boolean), (cK, .int)] s) : ∀ (th : Int32) (bm : Bm) (km : Rw) (qm : Tk) (bd : Int32) (ym : Tk) (p0 : Int32) (v : Int32), (∀ th : Int32, alE st lo 17 th bm km qm bd ym) → LX3_mark_45 st lo th bm km qm bd ym p0 v = z → ∀ (H : Heap) (locs : List Loc), va_P (dC, dI) vwCl [(om, .inr (3, [.int th, .int st, .int lo, .ref ob, .int bm.2.1, .int bm.2.2.1, .int bm.2.2.2.1, .int bm.2.2.2.2, .ref ok, .int km.2, .int qm.1, .int qm.2.1, .int qm.2.2.1, .int qm.2.2.2, .int bd, .int ym.1, .int ym.2.1, .int ym.2.2.1, .int ym.2.2.2])), (ob, .inl (cZ, 5200, .inl bm.1)), (ok, .inl (cK, 600, .inl km.1))] H → va_D A [(om, .inr (3, [.int th, .int st, .int lo, .ref ob, .int bm.2.1, .int bm.2.2.1, .int bm.2.2.2.1, .int bm.2.2.2.2, .ref ok, .int km.2, .int qm.1, .int qm.2.1, .int qm.2.2.1, .int qm.2.2.2, .int bd, .int ym.1, .int ym.2.1, .int ym.2.2.1, .int ym.2.2.2])), (ob, .inl (cZ, 5200, .inl bm.1)), (ok, .inl (cK, 600, .inl km.1))] → va_S A s.heap H locs → ∀ (ls : Array Slot), lv_has ls 5 [(0, .ref om), (1, .int p0)] → W p l e (headSpec (Cond.code yX3_mark cX3_mark 5 (some .int) :: G) ({ frames := 5, cells := 0, slots := 0, locals := 110 } : Room)).room s m args below meth c H locs 0 0 (MQ below (va_Qi (fun (r : Int32) (u : Int32 × Bm) => (r, u) = z) (fun (u : Int32 × Bm) (t : State) => va_P (dC, dI) vwCl [(om, .inr (3, [.int u.1, .int st, .int lo, .ref ob, .int u.2.2.1, .int u.2.2.2.1, .int u.2.2.2.2.1, .int u.2.2.2.2.2, .ref ok, .int km.2, .int qm.1, .int qm.2.1, .int qm.2.2.1, .int qm.2.2.2, .int bd, .int ym.1, .int ym.2.1, .int ym.2.2.1, .int ym.2.2.2])), (ob, .inl (cZ, 5200, .inl u.2.1)), (ok, .inl (cK, 600, .inl km.1))] t.heap ∧ va_D A [(om, .inr (3, [.int u.1, .int st, .int lo, .ref ob, .int u.2.2.1, .int u.2.2.2.1, .int u.2.2.2.2.1, .int u.2.2.2.2.2, .ref ok, .int km.2, .int qm.1, .int qm.2.1, .int qm.2.2.1, .int qm.2.2.2, .int bd, .int ym.1, .int ym.2.1, .int ym.2.2.1, .int ym.2.2.2])), (ob, .inl (cZ, 5200, .inl u.2.1)), (ok, .inl (cK, 600, .inl km.1))]) A) args s 0 0 A) (F0 m 45 ls [.int v, .ref om]) := by
  intro th bm km qm bd ym p0 v hE hz H locs hP hD hS ls hl
  refine va_put (D := (dC, dI)) (ci := 3) (v := .int v) (ty := .int) (C := RX3) (T := TX3) (N := 19) hx hb hts inGX3 tyX3 tyX3_ok nmX3 hown hK hP hD hS 0 rfl rfl 0 (by decide) (hts _ wd437) (fun _ h9 => h9) rfl (by decide +kernel) rfl rfl (Nat.le_of_ble_eq_true rfl) dX3_mark_45 (fun H locs hP hD hS => ?_)
  have hP : va_P (dC, dI) vwCl [(om, .inr (3, [.int v, .int st, .int lo, .ref ob, .int bm.2.1, .int bm.2.2.1, .int bm.2.2.2.1, .int bm.2.2.2.2, .ref ok, .int km.2, .int qm.1, .int qm.2.1, .int qm.2.2.1, .int qm.2.2.2, .int bd, .int ym.1, .int ym.2.1, .int ym.2.2.1, .int ym.2.2.2])), (ob, .inl (cZ, 5200, .inl bm.1)), (ok, .inl (cK, 600, .inl km.1))] H := hP
  have hD : va_D A [(om, .inr (3, [.int v, .int st, .int lo, .ref ob, .int bm.2.1, .int bm.2.2.1, .int bm.2.2.2.1, .int bm.2.2.2.2, .ref ok, .int km.2, .int qm.1, .int qm.2.1, .int qm.2.2.1, .int qm.2.2.2, .int bd, .int ym.1, .int ym.2.1, .int ym.2.2.1, .int ym.2.2.2])), (ob, .inl (cZ, 5200, .inl bm.1)), (ok, .inl (cK, 600, .inl km.1))] := hD
  refine lv_aload_n hx hb dX3_mark_48 rfl (lv_at hl 0 rfl) ?_
  refine va_get (D := (dC, dI)) (ci := 3) (v := .int v) (C := RX3) (T := TX3) (N := 19) hx hb hts inGX3 hown hK hP 0 rfl rfl 0 (by decide) (hts _ wd437) (fun _ h9 => h9) rfl dX3_mark_49 ?_
  refine lv_if_le (tgt := 57) hx hb dX3_mark_52 (by decide) (fun c_52 => ?_) (fun c_52 => ?_)
  · refine lv_aload_n hx hb dX3_mark_57 rfl (lv_at hl 0 rfl) ?_
    have hPc := hP.sub (ws' := [(om, .inr (3, [.int v, .int st, .int lo, .ref ob, .int bm.2.1, .int bm.2.2.1, .int bm.2.2.2.1, .int bm.2.2.2.2, .ref ok, .int km.2, .int qm.1, .int qm.2.1, .int qm.2.2.1, .int qm.2.2.2, .int bd, .int ym.1, .int ym.2.1, .int ym.2.2.1, .int ym.2.2.2])), (ob, .inl (cZ, 5200, .inl bm.1)), (ok, .inl (cK, 600, .inl km.1))]) [0, 1, 2] rfl
    have hKc := hK.sub (tys' := [(cZ, .boolean), (cK, .int)]) [0, 1] rfl
    have hDc := hD.sub (ws' := [(om, .inr (3, [.int v, .int st, .int lo, .ref ob, .int bm.2.1, .int bm.2.2.1, .int bm.2.2.2.1, .int bm.2.2.2.2, .ref ok, .int km.2, .int qm.1, .int qm.2.1, .int qm.2.2.1, .int qm.2.2.2, .int bd, .int ym.1, .int ym.2.1, .int ym.2.2.1, .int ym.2.2.2])), (ob, .inl (cZ, 5200, .inl bm.1)), (ok, .inl (cK, 600, .inl km.1))]) [0, 1, 2] (by decide) rfl
    have hFc := va_free (wc := [(om, .inr (3, [.int v, .int st, .int lo, .ref ob, .int bm.2.1, .int bm.2.2.1, .int bm.2.2.2.1, .int bm.2.2.2.2, .ref ok, .int km.2, .int qm.1, .int qm.2.1, .int qm.2.2.1, .int qm.2.2.2, .int bd, .int ym.1, .int ym.2.1, .int ym.2.2.1, .int ym.2.2.2])), (ob, .inl (cZ, 5200, .inl bm.1)), (ok, .inl (cK, 600, .inl km.1))]) hD hS hA [0, 1, 2] rfl
    refine va_calli (va_runV (As := []) (rest := []) ⟨hx, hb, hml, hown, hts⟩ (mX3_alignAll l dC dI cZ cK om ob ok H.size st lo v bm km qm bd ym (hE _)) (cwV 0 hts (gV wd527 wd528 wd16 wd30 wd529) rfl rfl rfl (by decide +kernel) ⟨Nat.le_of_ble_eq_true rfl, Nat.le_of_ble_eq_true rfl⟩) ⟨fb_rw, va_recv hKc hPc (ci := 3) (q0 := 0) rfl rfl, pre_rw hPc hKc hDc hZ⟩ rfl rfl hl.1 rfl (lv_room (Nat.le_of_ble_eq_true rfl)) dX3_mark_58 ⟨Nat.le_of_ble_eq_true rfl, Nat.le_of_ble_eq_true rfl⟩) hS (fun q _ h => hFc q h) hFc (fun r_1 u_3 t H1 locs ht hvm hw_2 hB hz1 hk1 hS => ?_)
    obtain ⟨hP1, hD1⟩ := hB
    rw [ht] at hP1
    obtain ⟨hP, hD⟩ := va_join (wr := []) (w1 := [(om, .inr (3, [.int v, .int st, .int lo, .ref ob, .int u_3.2.1, .int u_3.2.2.1, .int u_3.2.2.2.1, .int u_3.2.2.2.2, .ref ok, .int km.2, .int qm.1, .int qm.2.1, .int qm.2.2.1, .int qm.2.2.2, .int bd, .int ym.1, .int ym.2.1, .int ym.2.2.1, .int ym.2.2.2])), (ob, .inl (cZ, 5200, .inl u_3.1)), (ok, .inl (cK, 600, .inl km.1))]) hP hD [0, 1, 2] [] rfl rfl (by decide) (by decide) hk1 hFc hP1 hD1
    generalize H1 = H at hP hS ⊢
    have hP : va_P (dC, dI) vwCl [(om, .inr (3, [.int v, .int st, .int lo, .ref ob, .int u_3.2.1, .int u_3.2.2.1, .int u_3.2.2.2.1, .int u_3.2.2.2.2, .ref ok, .int km.2, .int qm.1, .int qm.2.1, .int qm.2.2.1, .int qm.2.2.2, .int bd, .int ym.1, .int ym.2.1, .int ym.2.2.1, .int ym.2.2.2])), (ob, .inl (cZ, 5200, .inl u_3.1)), (ok, .inl (cK, 600, .inl km.1))] H := hP
    have hD : va_D A [(om, .inr (3, [.int v, .int st, .int lo, .ref ob, .int u_3.2.1, .int u_3.2.2.1, .int u_3.2.2.2.1, .int u_3.2.2.2.2, .ref ok, .int km.2, .int qm.1, .int qm.2.1, .int qm.2.2.1, .int qm.2.2.2, .int bd, .int ym.1, .int ym.2.1, .int ym.2.2.1, .int ym.2.2.2])), (ob, .inl (cZ, 5200, .inl u_3.1)), (ok, .inl (cK, 600, .inl km.1))] := hD
    refine lv_istore_n (lv' := [(2, .int r_1), (0, .ref om), (1, .int p0)]) hx hb dX3_mark_61 rfl hl (by decide) rfl (fun ls hl => ?_)
    refine lv_aload_n hx hb dX3_mark_62 rfl (lv_at hl 1 rfl) ?_
    refine va_get (D := (dC, dI)) (ci := 3) (v := .int u_3.2.1) (C := RX3) (T := TX3) (N := 19) hx hb hts inGX3 hown hK hP 0 rfl rfl 4 (by decide) (hts _ wd441) (fun _ h9 => h9) rfl dX3_mark_63 ?_
    refine lv_bipush (v := 8) hx hb dX3_mark_66 (by decide) ?_
    refine lv_idiv hx hb dX3_mark_68 (by decide) ?_
    refine lv_topi (fun x_4 ex_4 => ?_)
    refine lv_istore_n (lv' := [(3, .int x_4), (2, .int r_1), (0, .ref om), (1, .int p0)]) hx hb dX3_mark_69 rfl hl (by decide) rfl (fun ls hl => ?_)
    refine lv_iconst (v := 0) hx hb dX3_mark_70 (by decide) ?_
    refine lv_istore (lv' := [(4, .int 0), (3, .int x_4), (2, .int r_1), (0, .ref om), (1, .int p0)]) hx hb dX3_mark_71 hl (by decide) rfl (fun ls hl => ?_)
    exact kX3_mark_73 hx hb hr hml hown hts hlocks hA hZ hK 9 v u_3 km qm bd ym p0 r_1 x_4 0 (fuel_of (by decide) (by decide)) (mk_0 (al_endE (hE _) (by assumption)) (by decide)) ((plX3_mark_l45_0 st lo th bm km qm bd ym p0 v c_52 _ _ hw_2 _ ex_4).trans hz) _ _ (hP.sub (ws' := [(om, .inr (3, [.int v, .int st, .int lo, .ref ob, .int u_3.2.1, .int u_3.2.2.1, .int u_3.2.2.2.1, .int u_3.2.2.2.2, .ref ok, .int km.2, .int qm.1, .int qm.2.1, .int qm.2.2.1, .int qm.2.2.2, .int bd, .int ym.1, .int ym.2.1, .int ym.2.2.1, .int ym.2.2.2])), (ob, .inl (cZ, 5200, .inl u_3.1)), (ok, .inl (cK, 600, .inl km.1))]) [0, 1, 2] rfl) (hD.sub (ws' := [(om, .inr (3, [.int v, .int st, .int lo, .ref ob, .int u_3.2.1, .int u_3.2.2.1, .int u_3.2.2.2.1, .int u_3.2.2.2.2, .ref ok, .int km.2, .int qm.1, .int qm.2.1, .int qm.2.2.1, .int qm.2.2.2, .int bd, .int ym.1, .int ym.2.1, .int ym.2.2.1, .int ym.2.2.2])), (ob, .inl (cZ, 5200, .inl u_3.1)), (ok, .inl (cK, 600, .inl km.1))]) [0, 1, 2] (by decide) rfl) hS ls (lv_sub hl [3, 4, 2, 1, 0] rfl)
  · refine lv_iconst (v := 0) hx hb dX3_mark_55 (by decide) ?_
    have hP9 := hP.sub (ws' := [(om, .inr (3, [.int v, .int st, .int lo, .ref ob, .int bm.2.1, .int bm.2.2.1, .int bm.2.2.2.1, .int bm.2.2.2.2, .ref ok, .int km.2, .int qm.1, .int qm.2.1, .int qm.2.2.1, .int qm.2.2.2, .int bd, .int ym.1, .int ym.2.1, .int ym.2.2.1, .int ym.2.2.2])), (ob, .inl (cZ, 5200, .inl bm.1)), (ok, .inl (cK, 600, .inl km.1))]) [0, 1, 2] rfl
    have hD9 := hD.sub (ws' := [(om, .inr (3, [.int v, .int st, .int lo, .ref ob, .int bm.2.1, .int bm.2.2.1, .int bm.2.2.2.1, .int bm.2.2.2.2, .ref ok, .int km.2, .int qm.1, .int qm.2.1, .int qm.2.2.1, .int qm.2.2.2, .int bd, .int ym.1, .int ym.2.1, .int ym.2.2.1, .int ym.2.2.2])), (ob, .inl (cZ, 5200, .inl bm.1)), (ok, .inl (cK, 600, .inl km.1))]) [0, 1, 2] (by decide) rfl
    exact W.iret (v := 0) hx hb hr (fun t ht hW => ⟨⟨0, (v, bm), rfl, ((plX3_mark_l45_1 st lo th bm km qm bd ym p0 v c_52).trans hz), by rw [ht]; exact hP9, hD9⟩, hS.F ht⟩) hS.2.2 dX3_mark_56
set_option maxHeartbeats 4000000 in
set_option maxRecDepth 100000 in
theorem mX3_mark (l : Launch) (dC : Nat → ClassId) (dI : Nat → Nat → Nat) (cZ cK : ClassId) (om ob ok : Nat) (sz : Nat) (st : Int32) (lo : Int32) (th : Int32) (bm : Bm) (km : Rw) (qm : Tk) (bd : Int32) (ym : Tk) (p0 : Int32) (hE : ∀ th : Int32, alE st lo 17 th bm km qm bd ym) : Met l yX3_mark (Cond.code yX3_mark cX3_mark 5 (some .int) :: G) ({ frames := 5, cells := 0, slots := 0, locals := 110 } : Room) (va_Pc [.ref om, .int p0] (fun U => U.heap.size = sz ∧ va_P (dC, dI) vwCl [(om, .inr (3, [.int th, .int st, .int lo, .ref ob, .int bm.2.1, .int bm.2.2.1, .int bm.2.2.2.1, .int bm.2.2.2.2, .ref ok, .int km.2, .int qm.1, .int qm.2.1, .int qm.2.2.1, .int qm.2.2.2, .int bd, .int ym.1, .int ym.2.1, .int ym.2.2.1, .int ym.2.2.2])), (ob, .inl (cZ, 5200, .inl bm.1)), (ok, .inl (cK, 600, .inl km.1))] U.heap ∧ va_K (dC, dI) vwCl [(cZ, .boolean), (cK, .int)] U ∧ va_D (fun _ => True) [(om, .inr (3, [.int th, .int st, .int lo, .ref ob, .int bm.2.1, .int bm.2.2.1, .int bm.2.2.2.1, .int bm.2.2.2.2, .ref ok, .int km.2, .int qm.1, .int qm.2.1, .int qm.2.2.1, .int qm.2.2.2, .int bd, .int ym.1, .int ym.2.1, .int ym.2.2.1, .int ym.2.2.2])), (ob, .inl (cZ, 5200, .inl bm.1)), (ok, .inl (cK, 600, .inl km.1))] ∧ zOk U)) (va_Qi (fun (r : Int32) (u : Int32 × Bm) => (r, u) = (FX3_mark st lo th bm km qm bd ym p0)) (fun (u : Int32 × Bm) (t : State) => va_P (dC, dI) vwCl [(om, .inr (3, [.int u.1, .int st, .int lo, .ref ob, .int u.2.2.1, .int u.2.2.2.1, .int u.2.2.2.2.1, .int u.2.2.2.2.2, .ref ok, .int km.2, .int qm.1, .int qm.2.1, .int qm.2.2.1, .int qm.2.2.2, .int bd, .int ym.1, .int ym.2.1, .int ym.2.2.1, .int ym.2.2.2])), (ob, .inl (cZ, 5200, .inl u.2.1)), (ok, .inl (cK, 600, .inl km.1))] t.heap ∧ va_D (va_A [(om, .inr (3, [.int th, .int st, .int lo, .ref ob, .int bm.2.1, .int bm.2.2.1, .int bm.2.2.2.1, .int bm.2.2.2.2, .ref ok, .int km.2, .int qm.1, .int qm.2.1, .int qm.2.2.1, .int qm.2.2.2, .int bd, .int ym.1, .int ym.2.1, .int ym.2.2.1, .int ym.2.2.2])), (ob, .inl (cZ, 5200, .inl bm.1)), (ok, .inl (cK, 600, .inl km.1))] sz) [(om, .inr (3, [.int u.1, .int st, .int lo, .ref ob, .int u.2.2.1, .int u.2.2.2.1, .int u.2.2.2.2.1, .int u.2.2.2.2.2, .ref ok, .int km.2, .int qm.1, .int qm.2.1, .int qm.2.2.1, .int qm.2.2.2, .int bd, .int ym.1, .int ym.2.1, .int ym.2.2.1, .int ym.2.2.2])), (ob, .inl (cZ, 5200, .inl u.2.1)), (ok, .inl (cK, 600, .inl km.1))]) (va_A [(om, .inr (3, [.int th, .int st, .int lo, .ref ob, .int bm.2.1, .int bm.2.2.1, .int bm.2.2.2.1, .int bm.2.2.2.2, .ref ok, .int km.2, .int qm.1, .int qm.2.1, .int qm.2.2.1, .int qm.2.2.2, .int bd, .int ym.1, .int ym.2.1, .int ym.2.2.1, .int ym.2.2.2])), (ob, .inl (cZ, 5200, .inl bm.1)), (ok, .inl (cK, 600, .inl km.1))] sz)) 0 0 (va_A [(om, .inr (3, [.int th, .int st, .int lo, .ref ob, .int bm.2.1, .int bm.2.2.1, .int bm.2.2.2.1, .int bm.2.2.2.2, .ref ok, .int km.2, .int qm.1, .int qm.2.1, .int qm.2.2.1, .int qm.2.2.2, .int bd, .int ym.1, .int ym.2.1, .int ym.2.2.1, .int ym.2.2.2])), (ob, .inl (cZ, 5200, .inl bm.1)), (ok, .inl (cK, 600, .inl km.1))] sz) := by
  refine Met.ofW (cc := cX3_mark) (maxL := 5) (ret := (some .int)) (by decide) rfl ?_
  intro p e s m args below meth c s₁ B hml hv
  obtain ⟨rfl, hsz, hP, hK, hD0, hZ⟩ := hv
  have hx := B.exec
  have hb := B.bytes
  have hr := B.returns
  have hts : ∀ w ∈ G, w.before [.ref om, .int p0].toArray s = true := fun w h => atoms_spec (ws := (Cond.code yX3_mark cX3_mark 5 (some .int) :: G)) B.pre w (List.mem_cons_of_mem _ h)
  have hown : s.vm.findClass RX3 = some m.cls := findClass_of_methodNamed B.named
  have hlocks := B.notSynchronized
  subst hsz
  have hD := hD0.self (sz := s.heap.size)
  generalize hAe : va_A [(om, .inr (3, [.int th, .int st, .int lo, .ref ob, .int bm.2.1, .int bm.2.2.1, .int bm.2.2.2.1, .int bm.2.2.2.2, .ref ok, .int km.2, .int qm.1, .int qm.2.1, .int qm.2.2.1, .int qm.2.2.2, .int bd, .int ym.1, .int ym.2.1, .int ym.2.2.1, .int ym.2.2.2])), (ob, .inl (cZ, 5200, .inl bm.1)), (ok, .inl (cK, 600, .inl km.1))] s.heap.size = A at hD ⊢
  have hA : ∀ q : Nat, s.heap.size ≤ q → A q := fun q h => by rw [← hAe]; exact Or.inr h
  have hS : va_S A s.heap s.heap [] := va_S.rf
  have hP : va_P (dC, dI) vwCl [(om, .inr (3, [.int th, .int st, .int lo, .ref ob, .int bm.2.1, .int bm.2.2.1, .int bm.2.2.2.1, .int bm.2.2.2.2, .ref ok, .int km.2, .int qm.1, .int qm.2.1, .int qm.2.2.1, .int qm.2.2.2, .int bd, .int ym.1, .int ym.2.1, .int ym.2.2.1, .int ym.2.2.2])), (ob, .inl (cZ, 5200, .inl bm.1)), (ok, .inl (cK, 600, .inl km.1))] s.heap := hP
  have hl := lv_entry ([.ref om, .int p0]) (n := 5) (Nat.le_of_ble_eq_true rfl)
  rw [lg_entry_eq]
  generalize (lg_sl ([.ref om, .int p0]) ++ List.replicate (5 - (lg_sl ([.ref om, .int p0])).length) Slot.unset).toArray = ls at hl ⊢
  have hl : lv_has ls 5 [(0, .ref om), (1, .int p0)] := hl
  refine lv_aload_n hx hb dX3_mark_0 rfl (lv_at hl 0 rfl) ?_
  refine lv_aload_n hx hb dX3_mark_1 rfl (lv_at hl 0 rfl) ?_
  refine va_get (D := (dC, dI)) (ci := 3) (v := .int st) (C := RX3) (T := TX3) (N := 19) hx hb hts inGX3 hown hK hP 0 rfl rfl 1 (by decide) (hts _ wd438) (fun _ h9 => h9) rfl dX3_mark_2 ?_
  refine lv_iconst (v := 1) hx hb dX3_mark_5 (by decide) ?_
  refine lv_icmp_eq (tgt := 13) hx hb dX3_mark_6 (by decide) (fun c_6 => ?_) (fun c_6 => ?_)
  · refine lv_iload_n hx hb dX3_mark_13 rfl (lv_at hl 1 rfl) ?_
    refine lv_i2l (v := p0.toInt64) hx hb dX3_mark_14 rfl ?_
    refine lv_ldc2 (v := 128) hx hb hown (hts _ wd534) dX3_mark_15 ?_
    refine lv_ldc2 (v := 255) hx hb hown (hts _ wd535) dX3_mark_18 ?_
    refine vp_callSi (va_Run.run (va_runS (As := [.long p0.toInt64, .long 128, .long 255]) (rest := [.ref om]) ⟨hx, hb, hml, hown, hts⟩ (mX3_isIn l dC dI p0.toInt64 128 255) (va_cwS 3 hts (gS wd505 wd506 wd30 wd507) rfl rfl rfl (by decide +kernel) ⟨Nat.le_of_ble_eq_true rfl, Nat.le_of_ble_eq_true rfl⟩) ⟨fb_nw, pre_nw hZ⟩ rfl rfl hl.1 rfl (lv_room (Nat.le_of_ble_eq_true rfl)) dX3_mark_21 ⟨Nat.le_of_ble_eq_true rfl, Nat.le_of_ble_eq_true rfl⟩)) (fun r_1 hw_2 => ?_)
    refine lv_if_ne (tgt := 31) hx hb dX3_mark_24 (by decide) (fun c_24 => ?_) (fun c_24 => ?_)
    · refine lv_aload_n hx hb dX3_mark_31 rfl (lv_at hl 0 rfl) ?_
      refine lv_bipush (v := 32) hx hb dX3_mark_32 (by decide) ?_
      have hPc := hP.sub (ws' := [(om, .inr (3, [.int th, .int st, .int lo, .ref ob, .int bm.2.1, .int bm.2.2.1, .int bm.2.2.2.1, .int bm.2.2.2.2, .ref ok, .int km.2, .int qm.1, .int qm.2.1, .int qm.2.2.1, .int qm.2.2.2, .int bd, .int ym.1, .int ym.2.1, .int ym.2.2.1, .int ym.2.2.2])), (ob, .inl (cZ, 5200, .inl bm.1)), (ok, .inl (cK, 600, .inl km.1))]) [0, 1, 2] rfl
      have hKc := hK.sub (tys' := [(cZ, .boolean), (cK, .int)]) [0, 1] rfl
      refine vp_callSi (va_Run.run (va_runV (As := [.int 32]) (rest := [.ref om]) ⟨hx, hb, hml, hown, hts⟩ (mX3_isFull l dC dI cZ cK om ob ok st lo th bm km qm bd ym 32) (cwV 1 hts (gV wd508 wd509 wd11 wd30 wd510) rfl rfl rfl (by decide +kernel) ⟨Nat.le_of_ble_eq_true rfl, Nat.le_of_ble_eq_true rfl⟩) ⟨fb_ro, va_recv hKc hPc (ci := 3) (q0 := 0) rfl rfl, pre_ro hPc hKc hZ⟩ rfl rfl hl.1 rfl (lv_room (Nat.le_of_ble_eq_true rfl)) dX3_mark_34 ⟨Nat.le_of_ble_eq_true rfl, Nat.le_of_ble_eq_true rfl⟩)) (fun r_3 hw_4 => ?_)
      refine lv_if_eq (tgt := 44) hx hb dX3_mark_37 (by decide) (fun c_37 => ?_) (fun c_37 => ?_)
      · refine lv_iconst (v := 0) hx hb dX3_mark_44 (by decide) ?_
        exact kX3_mark_45 hx hb hr hml hown hts hlocks hA hZ hK  th bm km qm bd ym p0 0 hE (plX3_mark_0 st lo th bm km qm bd ym p0 c_6 _ hw_2 c_24 _ hw_4 c_37) _ _ (hP.sub (ws' := [(om, .inr (3, [.int th, .int st, .int lo, .ref ob, .int bm.2.1, .int bm.2.2.1, .int bm.2.2.2.1, .int bm.2.2.2.2, .ref ok, .int km.2, .int qm.1, .int qm.2.1, .int qm.2.2.1, .int qm.2.2.2, .int bd, .int ym.1, .int ym.2.1, .int ym.2.2.1, .int ym.2.2.2])), (ob, .inl (cZ, 5200, .inl bm.1)), (ok, .inl (cK, 600, .inl km.1))]) [0, 1, 2] rfl) (hD.sub (ws' := [(om, .inr (3, [.int th, .int st, .int lo, .ref ob, .int bm.2.1, .int bm.2.2.1, .int bm.2.2.2.1, .int bm.2.2.2.2, .ref ok, .int km.2, .int qm.1, .int qm.2.1, .int qm.2.2.1, .int qm.2.2.2, .int bd, .int ym.1, .int ym.2.1, .int ym.2.2.1, .int ym.2.2.2])), (ob, .inl (cZ, 5200, .inl bm.1)), (ok, .inl (cK, 600, .inl km.1))]) [0, 1, 2] (by decide) rfl) hS ls (lv_sub hl [0, 1] rfl)
      · refine lv_iconst (v := 3) hx hb dX3_mark_40 (by decide) ?_
        refine lv_goto (tgt := 45) hx hb dX3_mark_41 (by decide) ?_
        exact kX3_mark_45 hx hb hr hml hown hts hlocks hA hZ hK  th bm km qm bd ym p0 3 hE (plX3_mark_1 st lo th bm km qm bd ym p0 c_6 _ hw_2 c_24 _ hw_4 c_37) _ _ (hP.sub (ws' := [(om, .inr (3, [.int th, .int st, .int lo, .ref ob, .int bm.2.1, .int bm.2.2.1, .int bm.2.2.2.1, .int bm.2.2.2.2, .ref ok, .int km.2, .int qm.1, .int qm.2.1, .int qm.2.2.1, .int qm.2.2.2, .int bd, .int ym.1, .int ym.2.1, .int ym.2.2.1, .int ym.2.2.2])), (ob, .inl (cZ, 5200, .inl bm.1)), (ok, .inl (cK, 600, .inl km.1))]) [0, 1, 2] rfl) (hD.sub (ws' := [(om, .inr (3, [.int th, .int st, .int lo, .ref ob, .int bm.2.1, .int bm.2.2.1, .int bm.2.2.2.1, .int bm.2.2.2.2, .ref ok, .int km.2, .int qm.1, .int qm.2.1, .int qm.2.2.1, .int qm.2.2.2, .int bd, .int ym.1, .int ym.2.1, .int ym.2.2.1, .int ym.2.2.2])), (ob, .inl (cZ, 5200, .inl bm.1)), (ok, .inl (cK, 600, .inl km.1))]) [0, 1, 2] (by decide) rfl) hS ls (lv_sub hl [0, 1] rfl)
    · refine lv_iconst (v := 2) hx hb dX3_mark_27 (by decide) ?_
      refine lv_goto (tgt := 45) hx hb dX3_mark_28 (by decide) ?_
      exact kX3_mark_45 hx hb hr hml hown hts hlocks hA hZ hK  th bm km qm bd ym p0 2 hE (plX3_mark_2 st lo th bm km qm bd ym p0 c_6 _ hw_2 c_24) _ _ (hP.sub (ws' := [(om, .inr (3, [.int th, .int st, .int lo, .ref ob, .int bm.2.1, .int bm.2.2.1, .int bm.2.2.2.1, .int bm.2.2.2.2, .ref ok, .int km.2, .int qm.1, .int qm.2.1, .int qm.2.2.1, .int qm.2.2.2, .int bd, .int ym.1, .int ym.2.1, .int ym.2.2.1, .int ym.2.2.2])), (ob, .inl (cZ, 5200, .inl bm.1)), (ok, .inl (cK, 600, .inl km.1))]) [0, 1, 2] rfl) (hD.sub (ws' := [(om, .inr (3, [.int th, .int st, .int lo, .ref ob, .int bm.2.1, .int bm.2.2.1, .int bm.2.2.2.1, .int bm.2.2.2.2, .ref ok, .int km.2, .int qm.1, .int qm.2.1, .int qm.2.2.1, .int qm.2.2.2, .int bd, .int ym.1, .int ym.2.1, .int ym.2.2.1, .int ym.2.2.2])), (ob, .inl (cZ, 5200, .inl bm.1)), (ok, .inl (cK, 600, .inl km.1))]) [0, 1, 2] (by decide) rfl) hS ls (lv_sub hl [0, 1] rfl)
  · refine lv_iconst (v := 1) hx hb dX3_mark_9 (by decide) ?_
    refine lv_goto (tgt := 45) hx hb dX3_mark_10 (by decide) ?_
    exact kX3_mark_45 hx hb hr hml hown hts hlocks hA hZ hK  th bm km qm bd ym p0 1 hE (plX3_mark_3 st lo th bm km qm bd ym p0 c_6) _ _ (hP.sub (ws' := [(om, .inr (3, [.int th, .int st, .int lo, .ref ob, .int bm.2.1, .int bm.2.2.1, .int bm.2.2.2.1, .int bm.2.2.2.2, .ref ok, .int km.2, .int qm.1, .int qm.2.1, .int qm.2.2.1, .int qm.2.2.2, .int bd, .int ym.1, .int ym.2.1, .int ym.2.2.1, .int ym.2.2.2])), (ob, .inl (cZ, 5200, .inl bm.1)), (ok, .inl (cK, 600, .inl km.1))]) [0, 1, 2] rfl) (hD.sub (ws' := [(om, .inr (3, [.int th, .int st, .int lo, .ref ob, .int bm.2.1, .int bm.2.2.1, .int bm.2.2.2.1, .int bm.2.2.2.2, .ref ok, .int km.2, .int qm.1, .int qm.2.1, .int qm.2.2.1, .int qm.2.2.2, .int bd, .int ym.1, .int ym.2.1, .int ym.2.2.1, .int ym.2.2.2])), (ob, .inl (cZ, 5200, .inl bm.1)), (ok, .inl (cK, 600, .inl km.1))]) [0, 1, 2] (by decide) rfl) hS ls (lv_sub hl [0, 1] rfl)
def LX3_patch_69 (st : Int32) (lo : Int32) : Nat → Int32 → Bm → Rw → Tk → Int32 → Tk → Int32 → Int32 → Int32 → Int32 → Int32 → Int32 × Int32 × Bm
  | 0, th, bm, km, qm, bd, ym, p0, p1, p2, ws, i => (0, th, bm)
  | n + 1, th, bm, km, qm, bd, ym, p0, p1, p2, ws, i =>
    if p1 ≤ i then
      (ws, th, bm)
    else
      if lo = 0 then
        let x_1 := (p1 - 1) - i
        if (bm.1 (p0 + i).toNatClampNeg) = 0 then
          if (((p2.toUInt32 >>> (x_1.toUInt32 &&& Int32.toUInt32 31)).toInt32) &&& 1) = 1 then
            let i_3 := i + 1
            LX3_patch_69 st lo n th (upd bm.1 (p0 + i).toNatClampNeg (vp_nar .boolean 1), bm.2.1, bm.2.2.1, bm.2.2.2.1, bm.2.2.2.2) km qm bd ym p0 p1 p2 ws i_3
          else
            let i_2 := i + 1
            LX3_patch_69 st lo n th (upd bm.1 (p0 + i).toNatClampNeg (vp_nar .boolean 0), bm.2.1, bm.2.2.1, bm.2.2.2.1, bm.2.2.2.2) km qm bd ym p0 p1 p2 ws i_2
        else
          let x_4 := ws ||| (1 <<< (x_1 &&& 31))
          if (((p2.toUInt32 >>> (x_1.toUInt32 &&& Int32.toUInt32 31)).toInt32) &&& 1) = 1 then
            let i_6 := i + 1
            LX3_patch_69 st lo n th (upd bm.1 (p0 + i).toNatClampNeg (vp_nar .boolean 1), bm.2.1, bm.2.2.1, bm.2.2.2.1, bm.2.2.2.2) km qm bd ym p0 p1 p2 x_4 i_6
          else
            let i_5 := i + 1
            LX3_patch_69 st lo n th (upd bm.1 (p0 + i).toNatClampNeg (vp_nar .boolean 0), bm.2.1, bm.2.2.1, bm.2.2.2.1, bm.2.2.2.2) km qm bd ym p0 p1 p2 x_4 i_5
      else
        if (bm.1 (p0 + i).toNatClampNeg) = 0 then
          if (((p2.toUInt32 >>> (i.toUInt32 &&& Int32.toUInt32 31)).toInt32) &&& 1) = 1 then
            let i_8 := i + 1
            LX3_patch_69 st lo n th (upd bm.1 (p0 + i).toNatClampNeg (vp_nar .boolean 1), bm.2.1, bm.2.2.1, bm.2.2.2.1, bm.2.2.2.2) km qm bd ym p0 p1 p2 ws i_8
          else
            let i_7 := i + 1
            LX3_patch_69 st lo n th (upd bm.1 (p0 + i).toNatClampNeg (vp_nar .boolean 0), bm.2.1, bm.2.2.1, bm.2.2.2.1, bm.2.2.2.2) km qm bd ym p0 p1 p2 ws i_7
        else
          let x_9 := ws ||| (1 <<< (i &&& 31))
          if (((p2.toUInt32 >>> (i.toUInt32 &&& Int32.toUInt32 31)).toInt32) &&& 1) = 1 then
            let i_11 := i + 1
            LX3_patch_69 st lo n th (upd bm.1 (p0 + i).toNatClampNeg (vp_nar .boolean 1), bm.2.1, bm.2.2.1, bm.2.2.2.1, bm.2.2.2.2) km qm bd ym p0 p1 p2 x_9 i_11
          else
            let i_10 := i + 1
            LX3_patch_69 st lo n th (upd bm.1 (p0 + i).toNatClampNeg (vp_nar .boolean 0), bm.2.1, bm.2.2.1, bm.2.2.2.1, bm.2.2.2.2) km qm bd ym p0 p1 p2 x_9 i_10
def LX3_patch_51 (st : Int32) (lo : Int32) (th : Int32) (bm : Bm) (km : Rw) (qm : Tk) (bd : Int32) (ym : Tk) (p0 : Int32) (p1 : Int32) (p2 : Int32) (v : Int32) : Int32 × Int32 × Bm :=
  if v ≤ 0 then
    LX3_patch_69 st lo (fz 0 p1) v bm km qm bd ym p0 p1 p2 0 0
  else
    (0, v, bm)
def FX3_patch (st : Int32) (lo : Int32) (th : Int32) (bm : Bm) (km : Rw) (qm : Tk) (bd : Int32) (ym : Tk) (p0 : Int32) (p1 : Int32) (p2 : Int32) : Int32 × Int32 × Bm :=
  if st = 0 then
    let r_1 := FX3_isIn p1.toInt64 1 32
    if r_1 = 0 then
      LX3_patch_51 st lo th bm km qm bd ym p0 p1 p2 2
    else
      if p0 < 0 then
        LX3_patch_51 st lo th bm km qm bd ym p0 p1 p2 3
      else
        if (lg_cmp (p0.toInt64 + p1.toInt64) bm.2.1.toInt64) ≤ 0 then
          LX3_patch_51 st lo th bm km qm bd ym p0 p1 p2 0
        else
          LX3_patch_51 st lo th bm km qm bd ym p0 p1 p2 3
  else
    LX3_patch_51 st lo th bm km qm bd ym p0 p1 p2 1
set_option maxRecDepth 100000 in
theorem plX3_patch_l69_0 (st : Int32) (lo : Int32) (n : Nat) (th : Int32) (bm : Bm) (km : Rw) (qm : Tk) (bd : Int32) (ym : Tk) (p0 : Int32) (p1 : Int32) (p2 : Int32) (ws : Int32) (i : Int32) (c_72 : p1 ≤ i) : (ws, th, bm) = LX3_patch_69 st lo (n + 1) th bm km qm bd ym p0 p1 p2 ws i := by
  exact (if_pos c_72).symm
set_option maxRecDepth 100000 in
theorem plX3_patch_l69_1 (st : Int32) (lo : Int32) (n : Nat) (th : Int32) (bm : Bm) (km : Rw) (qm : Tk) (bd : Int32) (ym : Tk) (p0 : Int32) (p1 : Int32) (p2 : Int32) (ws : Int32) (i : Int32) (c_72 : ¬ (p1 ≤ i)) (c_79 : lo = 0) (x_1 : Int32) (ex_1 : x_1 = (p1 - 1) - i) (c_104 : (bm.1 (p0 + i).toNatClampNeg) = 0) (c_136 : ¬ ((((p2.toUInt32 >>> (x_1.toUInt32 &&& Int32.toUInt32 31)).toInt32) &&& 1) = 1)) (i_2 : Int32) (ei_2 : i_2 = i + 1) : LX3_patch_69 st lo n th (upd bm.1 (p0 + i).toNatClampNeg (vp_nar .boolean 0), bm.2.1, bm.2.2.1, bm.2.2.2.1, bm.2.2.2.2) km qm bd ym p0 p1 p2 ws i_2 = LX3_patch_69 st lo (n + 1) th bm km qm bd ym p0 p1 p2 ws i := by
  subst ex_1
  subst ei_2
  exact ((((if_neg c_72).trans (if_pos c_79)).trans (if_pos c_104)).trans (if_neg c_136)).symm
set_option maxRecDepth 100000 in
theorem plX3_patch_l69_2 (st : Int32) (lo : Int32) (n : Nat) (th : Int32) (bm : Bm) (km : Rw) (qm : Tk) (bd : Int32) (ym : Tk) (p0 : Int32) (p1 : Int32) (p2 : Int32) (ws : Int32) (i : Int32) (c_72 : ¬ (p1 ≤ i)) (c_79 : lo = 0) (x_1 : Int32) (ex_1 : x_1 = (p1 - 1) - i) (c_104 : (bm.1 (p0 + i).toNatClampNeg) = 0) (c_136 : (((p2.toUInt32 >>> (x_1.toUInt32 &&& Int32.toUInt32 31)).toInt32) &&& 1) = 1) (i_3 : Int32) (ei_3 : i_3 = i + 1) : LX3_patch_69 st lo n th (upd bm.1 (p0 + i).toNatClampNeg (vp_nar .boolean 1), bm.2.1, bm.2.2.1, bm.2.2.2.1, bm.2.2.2.2) km qm bd ym p0 p1 p2 ws i_3 = LX3_patch_69 st lo (n + 1) th bm km qm bd ym p0 p1 p2 ws i := by
  subst ex_1
  subst ei_3
  exact ((((if_neg c_72).trans (if_pos c_79)).trans (if_pos c_104)).trans (if_pos c_136)).symm
set_option maxRecDepth 100000 in
theorem plX3_patch_l69_3 (st : Int32) (lo : Int32) (n : Nat) (th : Int32) (bm : Bm) (km : Rw) (qm : Tk) (bd : Int32) (ym : Tk) (p0 : Int32) (p1 : Int32) (p2 : Int32) (ws : Int32) (i : Int32) (c_72 : ¬ (p1 ≤ i)) (c_79 : lo = 0) (x_1 : Int32) (ex_1 : x_1 = (p1 - 1) - i) (c_104 : ¬ ((bm.1 (p0 + i).toNatClampNeg) = 0)) (x_4 : Int32) (ex_4 : x_4 = ws ||| (1 <<< (x_1 &&& 31))) (c_136 : ¬ ((((p2.toUInt32 >>> (x_1.toUInt32 &&& Int32.toUInt32 31)).toInt32) &&& 1) = 1)) (i_5 : Int32) (ei_5 : i_5 = i + 1) : LX3_patch_69 st lo n th (upd bm.1 (p0 + i).toNatClampNeg (vp_nar .boolean 0), bm.2.1, bm.2.2.1, bm.2.2.2.1, bm.2.2.2.2) km qm bd ym p0 p1 p2 x_4 i_5 = LX3_patch_69 st lo (n + 1) th bm km qm bd ym p0 p1 p2 ws i := by
  subst ex_1
  subst ex_4
  subst ei_5
  exact ((((if_neg c_72).trans (if_pos c_79)).trans (if_neg c_104)).trans (if_neg c_136)).symm
set_option maxRecDepth 100000 in
theorem plX3_patch_l69_4 (st : Int32) (lo : Int32) (n : Nat) (th : Int32) (bm : Bm) (km : Rw) (qm : Tk) (bd : Int32) (ym : Tk) (p0 : Int32) (p1 : Int32) (p2 : Int32) (ws : Int32) (i : Int32) (c_72 : ¬ (p1 ≤ i)) (c_79 : lo = 0) (x_1 : Int32) (ex_1 : x_1 = (p1 - 1) - i) (c_104 : ¬ ((bm.1 (p0 + i).toNatClampNeg) = 0)) (x_4 : Int32) (ex_4 : x_4 = ws ||| (1 <<< (x_1 &&& 31))) (c_136 : (((p2.toUInt32 >>> (x_1.toUInt32 &&& Int32.toUInt32 31)).toInt32) &&& 1) = 1) (i_6 : Int32) (ei_6 : i_6 = i + 1) : LX3_patch_69 st lo n th (upd bm.1 (p0 + i).toNatClampNeg (vp_nar .boolean 1), bm.2.1, bm.2.2.1, bm.2.2.2.1, bm.2.2.2.2) km qm bd ym p0 p1 p2 x_4 i_6 = LX3_patch_69 st lo (n + 1) th bm km qm bd ym p0 p1 p2 ws i := by
  subst ex_1
  subst ex_4
  subst ei_6
  exact ((((if_neg c_72).trans (if_pos c_79)).trans (if_neg c_104)).trans (if_pos c_136)).symm
set_option maxRecDepth 100000 in
theorem plX3_patch_l69_5 (st : Int32) (lo : Int32) (n : Nat) (th : Int32) (bm : Bm) (km : Rw) (qm : Tk) (bd : Int32) (ym : Tk) (p0 : Int32) (p1 : Int32) (p2 : Int32) (ws : Int32) (i : Int32) (c_72 : ¬ (p1 ≤ i)) (c_79 : ¬ (lo = 0)) (c_104 : (bm.1 (p0 + i).toNatClampNeg) = 0) (c_136 : ¬ ((((p2.toUInt32 >>> (i.toUInt32 &&& Int32.toUInt32 31)).toInt32) &&& 1) = 1)) (i_7 : Int32) (ei_7 : i_7 = i + 1) : LX3_patch_69 st lo n th (upd bm.1 (p0 + i).toNatClampNeg (vp_nar .boolean 0), bm.2.1, bm.2.2.1, bm.2.2.2.1, bm.2.2.2.2) km qm bd ym p0 p1 p2 ws i_7 = LX3_patch_69 st lo (n + 1) th bm km qm bd ym p0 p1 p2 ws i := by
  subst ei_7
  exact ((((if_neg c_72).trans (if_neg c_79)).trans (if_pos c_104)).trans (if_neg c_136)).symm
set_option maxRecDepth 100000 in
theorem plX3_patch_l69_6 (st : Int32) (lo : Int32) (n : Nat) (th : Int32) (bm : Bm) (km : Rw) (qm : Tk) (bd : Int32) (ym : Tk) (p0 : Int32) (p1 : Int32) (p2 : Int32) (ws : Int32) (i : Int32) (c_72 : ¬ (p1 ≤ i)) (c_79 : ¬ (lo = 0)) (c_104 : (bm.1 (p0 + i).toNatClampNeg) = 0) (c_136 : (((p2.toUInt32 >>> (i.toUInt32 &&& Int32.toUInt32 31)).toInt32) &&& 1) = 1) (i_8 : Int32) (ei_8 : i_8 = i + 1) : LX3_patch_69 st lo n th (upd bm.1 (p0 + i).toNatClampNeg (vp_nar .boolean 1), bm.2.1, bm.2.2.1, bm.2.2.2.1, bm.2.2.2.2) km qm bd ym p0 p1 p2 ws i_8 = LX3_patch_69 st lo (n + 1) th bm km qm bd ym p0 p1 p2 ws i := by
  subst ei_8
  exact ((((if_neg c_72).trans (if_neg c_79)).trans (if_pos c_104)).trans (if_pos c_136)).symm
set_option maxRecDepth 100000 in
theorem plX3_patch_l69_7 (st : Int32) (lo : Int32) (n : Nat) (th : Int32) (bm : Bm) (km : Rw) (qm : Tk) (bd : Int32) (ym : Tk) (p0 : Int32) (p1 : Int32) (p2 : Int32) (ws : Int32) (i : Int32) (c_72 : ¬ (p1 ≤ i)) (c_79 : ¬ (lo = 0)) (c_104 : ¬ ((bm.1 (p0 + i).toNatClampNeg) = 0)) (x_9 : Int32) (ex_9 : x_9 = ws ||| (1 <<< (i &&& 31))) (c_136 : ¬ ((((p2.toUInt32 >>> (i.toUInt32 &&& Int32.toUInt32 31)).toInt32) &&& 1) = 1)) (i_10 : Int32) (ei_10 : i_10 = i + 1) : LX3_patch_69 st lo n th (upd bm.1 (p0 + i).toNatClampNeg (vp_nar .boolean 0), bm.2.1, bm.2.2.1, bm.2.2.2.1, bm.2.2.2.2) km qm bd ym p0 p1 p2 x_9 i_10 = LX3_patch_69 st lo (n + 1) th bm km qm bd ym p0 p1 p2 ws i := by
  subst ex_9
  subst ei_10
  exact ((((if_neg c_72).trans (if_neg c_79)).trans (if_neg c_104)).trans (if_neg c_136)).symm
set_option maxRecDepth 100000 in
theorem plX3_patch_l69_8 (st : Int32) (lo : Int32) (n : Nat) (th : Int32) (bm : Bm) (km : Rw) (qm : Tk) (bd : Int32) (ym : Tk) (p0 : Int32) (p1 : Int32) (p2 : Int32) (ws : Int32) (i : Int32) (c_72 : ¬ (p1 ≤ i)) (c_79 : ¬ (lo = 0)) (c_104 : ¬ ((bm.1 (p0 + i).toNatClampNeg) = 0)) (x_9 : Int32) (ex_9 : x_9 = ws ||| (1 <<< (i &&& 31))) (c_136 : (((p2.toUInt32 >>> (i.toUInt32 &&& Int32.toUInt32 31)).toInt32) &&& 1) = 1) (i_11 : Int32) (ei_11 : i_11 = i + 1) : LX3_patch_69 st lo n th (upd bm.1 (p0 + i).toNatClampNeg (vp_nar .boolean 1), bm.2.1, bm.2.2.1, bm.2.2.2.1, bm.2.2.2.2) km qm bd ym p0 p1 p2 x_9 i_11 = LX3_patch_69 st lo (n + 1) th bm km qm bd ym p0 p1 p2 ws i := by
  subst ex_9
  subst ei_11
  exact ((((if_neg c_72).trans (if_neg c_79)).trans (if_neg c_104)).trans (if_pos c_136)).symm
set_option maxRecDepth 100000 in
theorem plX3_patch_l51_0 (st : Int32) (lo : Int32) (th : Int32) (bm : Bm) (km : Rw) (qm : Tk) (bd : Int32) (ym : Tk) (p0 : Int32) (p1 : Int32) (p2 : Int32) (v : Int32) (c_58 : v ≤ 0) : LX3_patch_69 st lo (fz 0 p1) v bm km qm bd ym p0 p1 p2 0 0 = LX3_patch_51 st lo th bm km qm bd ym p0 p1 p2 v := by
  exact (if_pos c_58).symm
set_option maxRecDepth 100000 in
theorem plX3_patch_l51_1 (st : Int32) (lo : Int32) (th : Int32) (bm : Bm) (km : Rw) (qm : Tk) (bd : Int32) (ym : Tk) (p0 : Int32) (p1 : Int32) (p2 : Int32) (v : Int32) (c_58 : ¬ (v ≤ 0)) : (0, v, bm) = LX3_patch_51 st lo th bm km qm bd ym p0 p1 p2 v := by
  exact (if_neg c_58).symm
set_option maxRecDepth 100000 in
theorem plX3_patch_0 (st : Int32) (lo : Int32) (th : Int32) (bm : Bm) (km : Rw) (qm : Tk) (bd : Int32) (ym : Tk) (p0 : Int32) (p1 : Int32) (p2 : Int32) (c_5 : st = 0) (r_1 : Int32) (hw_2 : r_1 = FX3_isIn p1.toInt64 1 32) (c_21 : ¬ (r_1 = 0)) (c_29 : p0 < 0) : LX3_patch_51 st lo th bm km qm bd ym p0 p1 p2 3 = FX3_patch st lo th bm km qm bd ym p0 p1 p2 := by
  subst hw_2
  exact (((if_pos c_5).trans (if_neg c_21)).trans (if_pos c_29)).symm
set_option maxRecDepth 100000 in
theorem plX3_patch_1 (st : Int32) (lo : Int32) (th : Int32) (bm : Bm) (km : Rw) (qm : Tk) (bd : Int32) (ym : Tk) (p0 : Int32) (p1 : Int32) (p2 : Int32) (c_5 : st = 0) (r_1 : Int32) (hw_2 : r_1 = FX3_isIn p1.toInt64 1 32) (c_21 : ¬ (r_1 = 0)) (c_29 : ¬ (p0 < 0)) (c_43 : (lg_cmp (p0.toInt64 + p1.toInt64) bm.2.1.toInt64) ≤ 0) : LX3_patch_51 st lo th bm km qm bd ym p0 p1 p2 0 = FX3_patch st lo th bm km qm bd ym p0 p1 p2 := by
  subst hw_2
  exact ((((if_pos c_5).trans (if_neg c_21)).trans (if_neg c_29)).trans (if_pos c_43)).symm
set_option maxRecDepth 100000 in
theorem plX3_patch_2 (st : Int32) (lo : Int32) (th : Int32) (bm : Bm) (km : Rw) (qm : Tk) (bd : Int32) (ym : Tk) (p0 : Int32) (p1 : Int32) (p2 : Int32) (c_5 : st = 0) (r_1 : Int32) (hw_2 : r_1 = FX3_isIn p1.toInt64 1 32) (c_21 : ¬ (r_1 = 0)) (c_29 : ¬ (p0 < 0)) (c_43 : ¬ ((lg_cmp (p0.toInt64 + p1.toInt64) bm.2.1.toInt64) ≤ 0)) : LX3_patch_51 st lo th bm km qm bd ym p0 p1 p2 3 = FX3_patch st lo th bm km qm bd ym p0 p1 p2 := by
  subst hw_2
  exact ((((if_pos c_5).trans (if_neg c_21)).trans (if_neg c_29)).trans (if_neg c_43)).symm
set_option maxRecDepth 100000 in
theorem plX3_patch_3 (st : Int32) (lo : Int32) (th : Int32) (bm : Bm) (km : Rw) (qm : Tk) (bd : Int32) (ym : Tk) (p0 : Int32) (p1 : Int32) (p2 : Int32) (c_5 : st = 0) (r_1 : Int32) (hw_2 : r_1 = FX3_isIn p1.toInt64 1 32) (c_21 : r_1 = 0) : LX3_patch_51 st lo th bm km qm bd ym p0 p1 p2 2 = FX3_patch st lo th bm km qm bd ym p0 p1 p2 := by
  subst hw_2
  exact ((if_pos c_5).trans (if_pos c_21)).symm
set_option maxRecDepth 100000 in
theorem plX3_patch_4 (st : Int32) (lo : Int32) (th : Int32) (bm : Bm) (km : Rw) (qm : Tk) (bd : Int32) (ym : Tk) (p0 : Int32) (p1 : Int32) (p2 : Int32) (c_5 : ¬ (st = 0)) : LX3_patch_51 st lo th bm km qm bd ym p0 p1 p2 1 = FX3_patch st lo th bm km qm bd ym p0 p1 p2 := by
  exact (if_neg c_5).symm
set_option maxHeartbeats 4000000 in
set_option maxRecDepth 100000 in
theorem kX3_patch_69 {p : Program} {l : Launch} {e : Env} {s : State} {m : MethodId} {args : Array Value} {below : List Frame} {meth : Method} {c : Code} {dC : Nat → ClassId} {dI : Nat → Nat → Nat} {cZ cK : ClassId} {om ob ok : Nat} {st : Int32} {lo : Int32} {z : Int32 × Int32 × Bm} {A : Nat → Prop} (hx : p.tables.exec = Jvm.exec) (hb : c.code = cX3_patch) (hr : meth.sig.returnType = (some .int)) (hml : c.maxLocals = 7) (hown : s.vm.findClass RX3 = some m.cls) (hts : ∀ w ∈ G, w.before args s = true) (hlocks : meth.locks = false) (hA : ∀ q : Nat, s.heap.size ≤ q → A q) (hZ : zOk s) (hK : va_K (dC, dI) vwCl [(cZ, .boolean), (cK, .int)] s) : ∀ (n : Nat) (th : Int32) (bm : Bm) (km : Rw) (qm : Tk) (bd : Int32) (ym : Tk) (p0 : Int32) (p1 : Int32) (p2 : Int32) (ws : Int32) (i : Int32), (fuel n i p1) → (paL bm p0 p1 i) → LX3_patch_69 st lo n th bm km qm bd ym p0 p1 p2 ws i = z → ∀ (H : Heap) (locs : List Loc), va_P (dC, dI) vwCl [(om, .inr (3, [.int th, .int st, .int lo, .ref ob, .int bm.2.1, .int bm.2.2.1, .int bm.2.2.2.1, .int bm.2.2.2.2, .ref ok, .int km.2, .int qm.1, .int qm.2.1, .int qm.2.2.1, .int qm.2.2.2, .int bd, .int ym.1, .int ym.2.1, .int ym.2.2.1, .int ym.2.2.2])), (ob, .inl (cZ, 5200, .inl bm.1)), (ok, .inl (cK, 600, .inl km.1))] H → va_D A [(om, .inr (3, [.int th, .int st, .int lo, .ref ob, .int bm.2.1, .int bm.2.2.1, .int bm.2.2.2.1, .int bm.2.2.2.2, .ref ok, .int km.2, .int qm.1, .int qm.2.1, .int qm.2.2.1, .int qm.2.2.2, .int bd, .int ym.1, .int ym.2.1, .int ym.2.2.1, .int ym.2.2.2])), (ob, .inl (cZ, 5200, .inl bm.1)), (ok, .inl (cK, 600, .inl km.1))] → va_S A s.heap H locs → ∀ (ls : Array Slot), lv_has ls 7 [(0, .ref om), (1, .int p0), (2, .int p1), (3, .int p2), (4, .int ws), (5, .int i)] → W p l e (headSpec (Cond.code yX3_patch cX3_patch 7 (some .int) :: G) ({ frames := 1, cells := 0, slots := 0, locals := 25 } : Room)).room s m args below meth c H locs 0 0 (MQ below (va_Qi (fun (r : Int32) (u : Int32 × Bm) => (r, u) = z) (fun (u : Int32 × Bm) (t : State) => va_P (dC, dI) vwCl [(om, .inr (3, [.int u.1, .int st, .int lo, .ref ob, .int u.2.2.1, .int u.2.2.2.1, .int u.2.2.2.2.1, .int u.2.2.2.2.2, .ref ok, .int km.2, .int qm.1, .int qm.2.1, .int qm.2.2.1, .int qm.2.2.2, .int bd, .int ym.1, .int ym.2.1, .int ym.2.2.1, .int ym.2.2.2])), (ob, .inl (cZ, 5200, .inl u.2.1)), (ok, .inl (cK, 600, .inl km.1))] t.heap ∧ va_D A [(om, .inr (3, [.int u.1, .int st, .int lo, .ref ob, .int u.2.2.1, .int u.2.2.2.1, .int u.2.2.2.2.1, .int u.2.2.2.2.2, .ref ok, .int km.2, .int qm.1, .int qm.2.1, .int qm.2.2.1, .int qm.2.2.2, .int bd, .int ym.1, .int ym.2.1, .int ym.2.2.1, .int ym.2.2.2])), (ob, .inl (cZ, 5200, .inl u.2.1)), (ok, .inl (cK, 600, .inl km.1))]) A) args s 0 0 A) (F0 m 69 ls []) := by
  intro n
  induction n with
  | zero =>
    intro th bm km qm bd ym p0 p1 p2 ws i hf hp hz
    exact absurd hf.1 (Nat.lt_irrefl 0)
  | succ n ih =>
    intro th bm km qm bd ym p0 p1 p2 ws i hf hp hz H locs hP hD hS ls hl
    refine lv_iload hx hb dX3_patch_69 (lv_at hl 5 rfl) ?_
    refine lv_iload_n hx hb dX3_patch_71 rfl (lv_at hl 2 rfl) ?_
    refine lv_icmp_ge (tgt := 151) hx hb dX3_patch_72 (by decide) (fun c_72 => ?_) (fun c_72 => ?_)
    · refine lv_iload hx hb dX3_patch_151 (lv_at hl 4 rfl) ?_
      have hP9 := hP.sub (ws' := [(om, .inr (3, [.int th, .int st, .int lo, .ref ob, .int bm.2.1, .int bm.2.2.1, .int bm.2.2.2.1, .int bm.2.2.2.2, .ref ok, .int km.2, .int qm.1, .int qm.2.1, .int qm.2.2.1, .int qm.2.2.2, .int bd, .int ym.1, .int ym.2.1, .int ym.2.2.1, .int ym.2.2.2])), (ob, .inl (cZ, 5200, .inl bm.1)), (ok, .inl (cK, 600, .inl km.1))]) [0, 1, 2] rfl
      have hD9 := hD.sub (ws' := [(om, .inr (3, [.int th, .int st, .int lo, .ref ob, .int bm.2.1, .int bm.2.2.1, .int bm.2.2.2.1, .int bm.2.2.2.2, .ref ok, .int km.2, .int qm.1, .int qm.2.1, .int qm.2.2.1, .int qm.2.2.2, .int bd, .int ym.1, .int ym.2.1, .int ym.2.2.1, .int ym.2.2.2])), (ob, .inl (cZ, 5200, .inl bm.1)), (ok, .inl (cK, 600, .inl km.1))]) [0, 1, 2] (by decide) rfl
      exact W.iret (v := ws) hx hb hr (fun t ht hW => ⟨⟨ws, (th, bm), rfl, ((plX3_patch_l69_0 st lo n th bm km qm bd ym p0 p1 p2 ws i c_72).trans hz), by rw [ht]; exact hP9, hD9⟩, hS.F ht⟩) hS.2.2 dX3_patch_153
    · refine lv_aload_n hx hb dX3_patch_75 rfl (lv_at hl 0 rfl) ?_
      refine va_get (D := (dC, dI)) (ci := 3) (v := .int lo) (C := RX3) (T := TX3) (N := 19) hx hb hts inGX3 hown hK hP 0 rfl rfl 2 (by decide) (hts _ wd439) (fun _ h9 => h9) rfl dX3_patch_76 ?_
      refine lv_if_eq (tgt := 87) hx hb dX3_patch_79 (by decide) (fun c_79 => ?_) (fun c_79 => ?_)
      · refine lv_iload_n hx hb dX3_patch_87 rfl (lv_at hl 2 rfl) ?_
        refine lv_iconst (v := 1) hx hb dX3_patch_88 (by decide) ?_
        refine lv_isub hx hb dX3_patch_89 ?_
        refine lv_iload hx hb dX3_patch_90 (lv_at hl 5 rfl) ?_
        refine lv_isub hx hb dX3_patch_92 ?_
        refine lv_topi (fun x_1 ex_1 => ?_)
        refine lv_istore (lv' := [(6, .int x_1), (0, .ref om), (1, .int p0), (2, .int p1), (3, .int p2), (4, .int ws), (5, .int i)]) hx hb dX3_patch_93 hl (by decide) rfl (fun ls hl => ?_)
        refine lv_aload_n hx hb dX3_patch_95 rfl (lv_at hl 1 rfl) ?_
        refine va_get (D := (dC, dI)) (ci := 3) (v := .ref ob) (C := RX3) (T := TX3) (N := 19) hx hb hts inGX3 hown hK hP 0 rfl rfl 3 (by decide) (hts _ wd440) (fun _ h9 => h9) rfl dX3_patch_96 ?_
        refine lv_iload_n hx hb dX3_patch_99 rfl (lv_at hl 2 rfl) ?_
        refine lv_iload hx hb dX3_patch_100 (lv_at hl 6 rfl) ?_
        refine lv_iadd hx hb dX3_patch_102 ?_
        refine va_zald hx hb hK hP 1 0 rfl rfl (pa_in hp c_72) dX3_patch_103 ?_
        refine lv_if_eq (tgt := 117) hx hb dX3_patch_104 (by decide) (fun c_104 => ?_) (fun c_104 => ?_)
        · refine lv_iload hx hb dX3_patch_117 (lv_at hl 5 rfl) ?_
          refine lv_istore (lv' := [(4, .int ws), (6, .int x_1), (0, .ref om), (1, .int p0), (2, .int p1), (3, .int p2), (5, .int i)]) hx hb dX3_patch_119 hl (by decide) rfl (fun ls hl => ?_)
          refine lv_aload_n hx hb dX3_patch_121 rfl (lv_at hl 2 rfl) ?_
          refine va_get (D := (dC, dI)) (ci := 3) (v := .ref ob) (C := RX3) (T := TX3) (N := 19) hx hb hts inGX3 hown hK hP 0 rfl rfl 3 (by decide) (hts _ wd440) (fun _ h9 => h9) rfl dX3_patch_122 ?_
          refine lv_iload_n hx hb dX3_patch_125 rfl (lv_at hl 3 rfl) ?_
          refine lv_iload hx hb dX3_patch_126 (lv_at hl 6 rfl) ?_
          refine lv_iadd hx hb dX3_patch_128 ?_
          refine lv_iload_n hx hb dX3_patch_129 rfl (lv_at hl 5 rfl) ?_
          refine lv_iload hx hb dX3_patch_130 (lv_at hl 1 rfl) ?_
          refine lv_iushr (v := (p2.toUInt32 >>> (x_1.toUInt32 &&& Int32.toUInt32 31)).toInt32) hx hb dX3_patch_132 rfl ?_
          refine lv_iconst (v := 1) hx hb dX3_patch_133 (by decide) ?_
          refine lv_iand hx hb dX3_patch_134 ?_
          refine lv_iconst (v := 1) hx hb dX3_patch_135 (by decide) ?_
          refine lv_icmp_ne (tgt := 143) hx hb dX3_patch_136 (by decide) (fun c_136 => ?_) (fun c_136 => ?_)
          · refine lv_iconst (v := 0) hx hb dX3_patch_143 (by decide) ?_
            refine va_zast hx hb hK hP hD hS 1 0 rfl rfl (pa_in hp c_72) dX3_patch_144 (fun H locs hP hD hS => ?_)
            have hP : va_P (dC, dI) vwCl [(om, .inr (3, [.int th, .int st, .int lo, .ref ob, .int bm.2.1, .int bm.2.2.1, .int bm.2.2.2.1, .int bm.2.2.2.2, .ref ok, .int km.2, .int qm.1, .int qm.2.1, .int qm.2.2.1, .int qm.2.2.2, .int bd, .int ym.1, .int ym.2.1, .int ym.2.2.1, .int ym.2.2.2])), (ob, .inl (cZ, 5200, .inl (upd bm.1 (p0 + i).toNatClampNeg (vp_nar .boolean 0)))), (ok, .inl (cK, 600, .inl km.1))] H := hP
            have hD : va_D A [(om, .inr (3, [.int th, .int st, .int lo, .ref ob, .int bm.2.1, .int bm.2.2.1, .int bm.2.2.2.1, .int bm.2.2.2.2, .ref ok, .int km.2, .int qm.1, .int qm.2.1, .int qm.2.2.1, .int qm.2.2.2, .int bd, .int ym.1, .int ym.2.1, .int ym.2.2.1, .int ym.2.2.2])), (ob, .inl (cZ, 5200, .inl (upd bm.1 (p0 + i).toNatClampNeg (vp_nar .boolean 0)))), (ok, .inl (cK, 600, .inl km.1))] := hD
            obtain ⟨i_2, ei_2⟩ : ∃ y : Int32, y = i + 1 := ⟨_, rfl⟩
            refine lv_iinc (v := i_2) (lv' := [(5, .int i_2), (4, .int ws), (6, .int x_1), (0, .ref om), (1, .int p0), (2, .int p1), (3, .int p2)]) hx hb dX3_patch_145 hl (k := 6) rfl (by rw [ei_2]; rfl) (by decide) rfl (fun ls hl => ?_)
            refine lv_goto (tgt := 69) hx hb dX3_patch_148 (by decide) ?_
            exact ih th (upd bm.1 (p0 + i).toNatClampNeg (vp_nar .boolean 0), bm.2.1, bm.2.2.1, bm.2.2.2.1, bm.2.2.2.2) km qm bd ym p0 p1 p2 ws i_2 (fuel_step2 hf (nle_lt c_72) (by assumption)) (pa_back hp c_72 (by assumption)) ((plX3_patch_l69_1 st lo n th bm km qm bd ym p0 p1 p2 ws i c_72 c_79 _ ex_1 c_104 c_136 _ ei_2).trans hz) _ _ (hP.sub (ws' := [(om, .inr (3, [.int th, .int st, .int lo, .ref ob, .int ((upd bm.1 (p0 + i).toNatClampNeg (vp_nar .boolean 0), bm.2.1, bm.2.2.1, bm.2.2.2.1, bm.2.2.2.2).2.1), .int ((upd bm.1 (p0 + i).toNatClampNeg (vp_nar .boolean 0), bm.2.1, bm.2.2.1, bm.2.2.2.1, bm.2.2.2.2).2.2.1), .int ((upd bm.1 (p0 + i).toNatClampNeg (vp_nar .boolean 0), bm.2.1, bm.2.2.1, bm.2.2.2.1, bm.2.2.2.2).2.2.2.1), .int ((upd bm.1 (p0 + i).toNatClampNeg (vp_nar .boolean 0), bm.2.1, bm.2.2.1, bm.2.2.2.1, bm.2.2.2.2).2.2.2.2), .ref ok, .int km.2, .int qm.1, .int qm.2.1, .int qm.2.2.1, .int qm.2.2.2, .int bd, .int ym.1, .int ym.2.1, .int ym.2.2.1, .int ym.2.2.2])), (ob, .inl (cZ, 5200, .inl ((upd bm.1 (p0 + i).toNatClampNeg (vp_nar .boolean 0), bm.2.1, bm.2.2.1, bm.2.2.2.1, bm.2.2.2.2).1))), (ok, .inl (cK, 600, .inl km.1))]) [0, 1, 2] rfl) (hD.sub (ws' := [(om, .inr (3, [.int th, .int st, .int lo, .ref ob, .int ((upd bm.1 (p0 + i).toNatClampNeg (vp_nar .boolean 0), bm.2.1, bm.2.2.1, bm.2.2.2.1, bm.2.2.2.2).2.1), .int ((upd bm.1 (p0 + i).toNatClampNeg (vp_nar .boolean 0), bm.2.1, bm.2.2.1, bm.2.2.2.1, bm.2.2.2.2).2.2.1), .int ((upd bm.1 (p0 + i).toNatClampNeg (vp_nar .boolean 0), bm.2.1, bm.2.2.1, bm.2.2.2.1, bm.2.2.2.2).2.2.2.1), .int ((upd bm.1 (p0 + i).toNatClampNeg (vp_nar .boolean 0), bm.2.1, bm.2.2.1, bm.2.2.2.1, bm.2.2.2.2).2.2.2.2), .ref ok, .int km.2, .int qm.1, .int qm.2.1, .int qm.2.2.1, .int qm.2.2.2, .int bd, .int ym.1, .int ym.2.1, .int ym.2.2.1, .int ym.2.2.2])), (ob, .inl (cZ, 5200, .inl ((upd bm.1 (p0 + i).toNatClampNeg (vp_nar .boolean 0), bm.2.1, bm.2.2.1, bm.2.2.2.1, bm.2.2.2.2).1))), (ok, .inl (cK, 600, .inl km.1))]) [0, 1, 2] (by decide) rfl) hS ls (lv_sub hl [3, 4, 5, 6, 1, 0] rfl)
          · refine lv_iconst (v := 1) hx hb dX3_patch_139 (by decide) ?_
            refine lv_goto (tgt := 144) hx hb dX3_patch_140 (by decide) ?_
            refine va_zast hx hb hK hP hD hS 1 0 rfl rfl (pa_in hp c_72) dX3_patch_144 (fun H locs hP hD hS => ?_)
            have hP : va_P (dC, dI) vwCl [(om, .inr (3, [.int th, .int st, .int lo, .ref ob, .int bm.2.1, .int bm.2.2.1, .int bm.2.2.2.1, .int bm.2.2.2.2, .ref ok, .int km.2, .int qm.1, .int qm.2.1, .int qm.2.2.1, .int qm.2.2.2, .int bd, .int ym.1, .int ym.2.1, .int ym.2.2.1, .int ym.2.2.2])), (ob, .inl (cZ, 5200, .inl (upd bm.1 (p0 + i).toNatClampNeg (vp_nar .boolean 1)))), (ok, .inl (cK, 600, .inl km.1))] H := hP
            have hD : va_D A [(om, .inr (3, [.int th, .int st, .int lo, .ref ob, .int bm.2.1, .int bm.2.2.1, .int bm.2.2.2.1, .int bm.2.2.2.2, .ref ok, .int km.2, .int qm.1, .int qm.2.1, .int qm.2.2.1, .int qm.2.2.2, .int bd, .int ym.1, .int ym.2.1, .int ym.2.2.1, .int ym.2.2.2])), (ob, .inl (cZ, 5200, .inl (upd bm.1 (p0 + i).toNatClampNeg (vp_nar .boolean 1)))), (ok, .inl (cK, 600, .inl km.1))] := hD
            obtain ⟨i_3, ei_3⟩ : ∃ y : Int32, y = i + 1 := ⟨_, rfl⟩
            refine lv_iinc (v := i_3) (lv' := [(5, .int i_3), (4, .int ws), (6, .int x_1), (0, .ref om), (1, .int p0), (2, .int p1), (3, .int p2)]) hx hb dX3_patch_145 hl (k := 6) rfl (by rw [ei_3]; rfl) (by decide) rfl (fun ls hl => ?_)
            refine lv_goto (tgt := 69) hx hb dX3_patch_148 (by decide) ?_
            exact ih th (upd bm.1 (p0 + i).toNatClampNeg (vp_nar .boolean 1), bm.2.1, bm.2.2.1, bm.2.2.2.1, bm.2.2.2.2) km qm bd ym p0 p1 p2 ws i_3 (fuel_step2 hf (nle_lt c_72) (by assumption)) (pa_back hp c_72 (by assumption)) ((plX3_patch_l69_2 st lo n th bm km qm bd ym p0 p1 p2 ws i c_72 c_79 _ ex_1 c_104 c_136 _ ei_3).trans hz) _ _ (hP.sub (ws' := [(om, .inr (3, [.int th, .int st, .int lo, .ref ob, .int ((upd bm.1 (p0 + i).toNatClampNeg (vp_nar .boolean 1), bm.2.1, bm.2.2.1, bm.2.2.2.1, bm.2.2.2.2).2.1), .int ((upd bm.1 (p0 + i).toNatClampNeg (vp_nar .boolean 1), bm.2.1, bm.2.2.1, bm.2.2.2.1, bm.2.2.2.2).2.2.1), .int ((upd bm.1 (p0 + i).toNatClampNeg (vp_nar .boolean 1), bm.2.1, bm.2.2.1, bm.2.2.2.1, bm.2.2.2.2).2.2.2.1), .int ((upd bm.1 (p0 + i).toNatClampNeg (vp_nar .boolean 1), bm.2.1, bm.2.2.1, bm.2.2.2.1, bm.2.2.2.2).2.2.2.2), .ref ok, .int km.2, .int qm.1, .int qm.2.1, .int qm.2.2.1, .int qm.2.2.2, .int bd, .int ym.1, .int ym.2.1, .int ym.2.2.1, .int ym.2.2.2])), (ob, .inl (cZ, 5200, .inl ((upd bm.1 (p0 + i).toNatClampNeg (vp_nar .boolean 1), bm.2.1, bm.2.2.1, bm.2.2.2.1, bm.2.2.2.2).1))), (ok, .inl (cK, 600, .inl km.1))]) [0, 1, 2] rfl) (hD.sub (ws' := [(om, .inr (3, [.int th, .int st, .int lo, .ref ob, .int ((upd bm.1 (p0 + i).toNatClampNeg (vp_nar .boolean 1), bm.2.1, bm.2.2.1, bm.2.2.2.1, bm.2.2.2.2).2.1), .int ((upd bm.1 (p0 + i).toNatClampNeg (vp_nar .boolean 1), bm.2.1, bm.2.2.1, bm.2.2.2.1, bm.2.2.2.2).2.2.1), .int ((upd bm.1 (p0 + i).toNatClampNeg (vp_nar .boolean 1), bm.2.1, bm.2.2.1, bm.2.2.2.1, bm.2.2.2.2).2.2.2.1), .int ((upd bm.1 (p0 + i).toNatClampNeg (vp_nar .boolean 1), bm.2.1, bm.2.2.1, bm.2.2.2.1, bm.2.2.2.2).2.2.2.2), .ref ok, .int km.2, .int qm.1, .int qm.2.1, .int qm.2.2.1, .int qm.2.2.2, .int bd, .int ym.1, .int ym.2.1, .int ym.2.2.1, .int ym.2.2.2])), (ob, .inl (cZ, 5200, .inl ((upd bm.1 (p0 + i).toNatClampNeg (vp_nar .boolean 1), bm.2.1, bm.2.2.1, bm.2.2.2.1, bm.2.2.2.2).1))), (ok, .inl (cK, 600, .inl km.1))]) [0, 1, 2] (by decide) rfl) hS ls (lv_sub hl [3, 4, 5, 6, 1, 0] rfl)
        · refine lv_iload hx hb dX3_patch_107 (lv_at hl 5 rfl) ?_
          refine lv_iconst (v := 1) hx hb dX3_patch_109 (by decide) ?_
          refine lv_iload hx hb dX3_patch_110 (lv_at hl 0 rfl) ?_
          refine lv_ishl hx hb dX3_patch_112 ?_
          refine lv_ior hx hb dX3_patch_113 ?_
          refine lv_goto (tgt := 119) hx hb dX3_patch_114 (by decide) ?_
          refine lv_topi (fun x_4 ex_4 => ?_)
          refine lv_istore (lv' := [(4, .int x_4), (6, .int x_1), (0, .ref om), (1, .int p0), (2, .int p1), (3, .int p2), (5, .int i)]) hx hb dX3_patch_119 hl (by decide) rfl (fun ls hl => ?_)
          refine lv_aload_n hx hb dX3_patch_121 rfl (lv_at hl 2 rfl) ?_
          refine va_get (D := (dC, dI)) (ci := 3) (v := .ref ob) (C := RX3) (T := TX3) (N := 19) hx hb hts inGX3 hown hK hP 0 rfl rfl 3 (by decide) (hts _ wd440) (fun _ h9 => h9) rfl dX3_patch_122 ?_
          refine lv_iload_n hx hb dX3_patch_125 rfl (lv_at hl 3 rfl) ?_
          refine lv_iload hx hb dX3_patch_126 (lv_at hl 6 rfl) ?_
          refine lv_iadd hx hb dX3_patch_128 ?_
          refine lv_iload_n hx hb dX3_patch_129 rfl (lv_at hl 5 rfl) ?_
          refine lv_iload hx hb dX3_patch_130 (lv_at hl 1 rfl) ?_
          refine lv_iushr (v := (p2.toUInt32 >>> (x_1.toUInt32 &&& Int32.toUInt32 31)).toInt32) hx hb dX3_patch_132 rfl ?_
          refine lv_iconst (v := 1) hx hb dX3_patch_133 (by decide) ?_
          refine lv_iand hx hb dX3_patch_134 ?_
          refine lv_iconst (v := 1) hx hb dX3_patch_135 (by decide) ?_
          refine lv_icmp_ne (tgt := 143) hx hb dX3_patch_136 (by decide) (fun c_136 => ?_) (fun c_136 => ?_)
          · refine lv_iconst (v := 0) hx hb dX3_patch_143 (by decide) ?_
            refine va_zast hx hb hK hP hD hS 1 0 rfl rfl (pa_in hp c_72) dX3_patch_144 (fun H locs hP hD hS => ?_)
            have hP : va_P (dC, dI) vwCl [(om, .inr (3, [.int th, .int st, .int lo, .ref ob, .int bm.2.1, .int bm.2.2.1, .int bm.2.2.2.1, .int bm.2.2.2.2, .ref ok, .int km.2, .int qm.1, .int qm.2.1, .int qm.2.2.1, .int qm.2.2.2, .int bd, .int ym.1, .int ym.2.1, .int ym.2.2.1, .int ym.2.2.2])), (ob, .inl (cZ, 5200, .inl (upd bm.1 (p0 + i).toNatClampNeg (vp_nar .boolean 0)))), (ok, .inl (cK, 600, .inl km.1))] H := hP
            have hD : va_D A [(om, .inr (3, [.int th, .int st, .int lo, .ref ob, .int bm.2.1, .int bm.2.2.1, .int bm.2.2.2.1, .int bm.2.2.2.2, .ref ok, .int km.2, .int qm.1, .int qm.2.1, .int qm.2.2.1, .int qm.2.2.2, .int bd, .int ym.1, .int ym.2.1, .int ym.2.2.1, .int ym.2.2.2])), (ob, .inl (cZ, 5200, .inl (upd bm.1 (p0 + i).toNatClampNeg (vp_nar .boolean 0)))), (ok, .inl (cK, 600, .inl km.1))] := hD
            obtain ⟨i_5, ei_5⟩ : ∃ y : Int32, y = i + 1 := ⟨_, rfl⟩
            refine lv_iinc (v := i_5) (lv' := [(5, .int i_5), (4, .int x_4), (6, .int x_1), (0, .ref om), (1, .int p0), (2, .int p1), (3, .int p2)]) hx hb dX3_patch_145 hl (k := 6) rfl (by rw [ei_5]; rfl) (by decide) rfl (fun ls hl => ?_)
            refine lv_goto (tgt := 69) hx hb dX3_patch_148 (by decide) ?_
            exact ih th (upd bm.1 (p0 + i).toNatClampNeg (vp_nar .boolean 0), bm.2.1, bm.2.2.1, bm.2.2.2.1, bm.2.2.2.2) km qm bd ym p0 p1 p2 x_4 i_5 (fuel_step2 hf (nle_lt c_72) (by assumption)) (pa_back hp c_72 (by assumption)) ((plX3_patch_l69_3 st lo n th bm km qm bd ym p0 p1 p2 ws i c_72 c_79 _ ex_1 c_104 _ ex_4 c_136 _ ei_5).trans hz) _ _ (hP.sub (ws' := [(om, .inr (3, [.int th, .int st, .int lo, .ref ob, .int ((upd bm.1 (p0 + i).toNatClampNeg (vp_nar .boolean 0), bm.2.1, bm.2.2.1, bm.2.2.2.1, bm.2.2.2.2).2.1), .int ((upd bm.1 (p0 + i).toNatClampNeg (vp_nar .boolean 0), bm.2.1, bm.2.2.1, bm.2.2.2.1, bm.2.2.2.2).2.2.1), .int ((upd bm.1 (p0 + i).toNatClampNeg (vp_nar .boolean 0), bm.2.1, bm.2.2.1, bm.2.2.2.1, bm.2.2.2.2).2.2.2.1), .int ((upd bm.1 (p0 + i).toNatClampNeg (vp_nar .boolean 0), bm.2.1, bm.2.2.1, bm.2.2.2.1, bm.2.2.2.2).2.2.2.2), .ref ok, .int km.2, .int qm.1, .int qm.2.1, .int qm.2.2.1, .int qm.2.2.2, .int bd, .int ym.1, .int ym.2.1, .int ym.2.2.1, .int ym.2.2.2])), (ob, .inl (cZ, 5200, .inl ((upd bm.1 (p0 + i).toNatClampNeg (vp_nar .boolean 0), bm.2.1, bm.2.2.1, bm.2.2.2.1, bm.2.2.2.2).1))), (ok, .inl (cK, 600, .inl km.1))]) [0, 1, 2] rfl) (hD.sub (ws' := [(om, .inr (3, [.int th, .int st, .int lo, .ref ob, .int ((upd bm.1 (p0 + i).toNatClampNeg (vp_nar .boolean 0), bm.2.1, bm.2.2.1, bm.2.2.2.1, bm.2.2.2.2).2.1), .int ((upd bm.1 (p0 + i).toNatClampNeg (vp_nar .boolean 0), bm.2.1, bm.2.2.1, bm.2.2.2.1, bm.2.2.2.2).2.2.1), .int ((upd bm.1 (p0 + i).toNatClampNeg (vp_nar .boolean 0), bm.2.1, bm.2.2.1, bm.2.2.2.1, bm.2.2.2.2).2.2.2.1), .int ((upd bm.1 (p0 + i).toNatClampNeg (vp_nar .boolean 0), bm.2.1, bm.2.2.1, bm.2.2.2.1, bm.2.2.2.2).2.2.2.2), .ref ok, .int km.2, .int qm.1, .int qm.2.1, .int qm.2.2.1, .int qm.2.2.2, .int bd, .int ym.1, .int ym.2.1, .int ym.2.2.1, .int ym.2.2.2])), (ob, .inl (cZ, 5200, .inl ((upd bm.1 (p0 + i).toNatClampNeg (vp_nar .boolean 0), bm.2.1, bm.2.2.1, bm.2.2.2.1, bm.2.2.2.2).1))), (ok, .inl (cK, 600, .inl km.1))]) [0, 1, 2] (by decide) rfl) hS ls (lv_sub hl [3, 4, 5, 6, 1, 0] rfl)
          · refine lv_iconst (v := 1) hx hb dX3_patch_139 (by decide) ?_
            refine lv_goto (tgt := 144) hx hb dX3_patch_140 (by decide) ?_
            refine va_zast hx hb hK hP hD hS 1 0 rfl rfl (pa_in hp c_72) dX3_patch_144 (fun H locs hP hD hS => ?_)
            have hP : va_P (dC, dI) vwCl [(om, .inr (3, [.int th, .int st, .int lo, .ref ob, .int bm.2.1, .int bm.2.2.1, .int bm.2.2.2.1, .int bm.2.2.2.2, .ref ok, .int km.2, .int qm.1, .int qm.2.1, .int qm.2.2.1, .int qm.2.2.2, .int bd, .int ym.1, .int ym.2.1, .int ym.2.2.1, .int ym.2.2.2])), (ob, .inl (cZ, 5200, .inl (upd bm.1 (p0 + i).toNatClampNeg (vp_nar .boolean 1)))), (ok, .inl (cK, 600, .inl km.1))] H := hP
            have hD : va_D A [(om, .inr (3, [.int th, .int st, .int lo, .ref ob, .int bm.2.1, .int bm.2.2.1, .int bm.2.2.2.1, .int bm.2.2.2.2, .ref ok, .int km.2, .int qm.1, .int qm.2.1, .int qm.2.2.1, .int qm.2.2.2, .int bd, .int ym.1, .int ym.2.1, .int ym.2.2.1, .int ym.2.2.2])), (ob, .inl (cZ, 5200, .inl (upd bm.1 (p0 + i).toNatClampNeg (vp_nar .boolean 1)))), (ok, .inl (cK, 600, .inl km.1))] := hD
            obtain ⟨i_6, ei_6⟩ : ∃ y : Int32, y = i + 1 := ⟨_, rfl⟩
            refine lv_iinc (v := i_6) (lv' := [(5, .int i_6), (4, .int x_4), (6, .int x_1), (0, .ref om), (1, .int p0), (2, .int p1), (3, .int p2)]) hx hb dX3_patch_145 hl (k := 6) rfl (by rw [ei_6]; rfl) (by decide) rfl (fun ls hl => ?_)
            refine lv_goto (tgt := 69) hx hb dX3_patch_148 (by decide) ?_
            exact ih th (upd bm.1 (p0 + i).toNatClampNeg (vp_nar .boolean 1), bm.2.1, bm.2.2.1, bm.2.2.2.1, bm.2.2.2.2) km qm bd ym p0 p1 p2 x_4 i_6 (fuel_step2 hf (nle_lt c_72) (by assumption)) (pa_back hp c_72 (by assumption)) ((plX3_patch_l69_4 st lo n th bm km qm bd ym p0 p1 p2 ws i c_72 c_79 _ ex_1 c_104 _ ex_4 c_136 _ ei_6).trans hz) _ _ (hP.sub (ws' := [(om, .inr (3, [.int th, .int st, .int lo, .ref ob, .int ((upd bm.1 (p0 + i).toNatClampNeg (vp_nar .boolean 1), bm.2.1, bm.2.2.1, bm.2.2.2.1, bm.2.2.2.2).2.1), .int ((upd bm.1 (p0 + i).toNatClampNeg (vp_nar .boolean 1), bm.2.1, bm.2.2.1, bm.2.2.2.1, bm.2.2.2.2).2.2.1), .int ((upd bm.1 (p0 + i).toNatClampNeg (vp_nar .boolean 1), bm.2.1, bm.2.2.1, bm.2.2.2.1, bm.2.2.2.2).2.2.2.1), .int ((upd bm.1 (p0 + i).toNatClampNeg (vp_nar .boolean 1), bm.2.1, bm.2.2.1, bm.2.2.2.1, bm.2.2.2.2).2.2.2.2), .ref ok, .int km.2, .int qm.1, .int qm.2.1, .int qm.2.2.1, .int qm.2.2.2, .int bd, .int ym.1, .int ym.2.1, .int ym.2.2.1, .int ym.2.2.2])), (ob, .inl (cZ, 5200, .inl ((upd bm.1 (p0 + i).toNatClampNeg (vp_nar .boolean 1), bm.2.1, bm.2.2.1, bm.2.2.2.1, bm.2.2.2.2).1))), (ok, .inl (cK, 600, .inl km.1))]) [0, 1, 2] rfl) (hD.sub (ws' := [(om, .inr (3, [.int th, .int st, .int lo, .ref ob, .int ((upd bm.1 (p0 + i).toNatClampNeg (vp_nar .boolean 1), bm.2.1, bm.2.2.1, bm.2.2.2.1, bm.2.2.2.2).2.1), .int ((upd bm.1 (p0 + i).toNatClampNeg (vp_nar .boolean 1), bm.2.1, bm.2.2.1, bm.2.2.2.1, bm.2.2.2.2).2.2.1), .int ((upd bm.1 (p0 + i).toNatClampNeg (vp_nar .boolean 1), bm.2.1, bm.2.2.1, bm.2.2.2.1, bm.2.2.2.2).2.2.2.1), .int ((upd bm.1 (p0 + i).toNatClampNeg (vp_nar .boolean 1), bm.2.1, bm.2.2.1, bm.2.2.2.1, bm.2.2.2.2).2.2.2.2), .ref ok, .int km.2, .int qm.1, .int qm.2.1, .int qm.2.2.1, .int qm.2.2.2, .int bd, .int ym.1, .int ym.2.1, .int ym.2.2.1, .int ym.2.2.2])), (ob, .inl (cZ, 5200, .inl ((upd bm.1 (p0 + i).toNatClampNeg (vp_nar .boolean 1), bm.2.1, bm.2.2.1, bm.2.2.2.1, bm.2.2.2.2).1))), (ok, .inl (cK, 600, .inl km.1))]) [0, 1, 2] (by decide) rfl) hS ls (lv_sub hl [3, 4, 5, 6, 1, 0] rfl)
      · refine lv_iload hx hb dX3_patch_82 (lv_at hl 5 rfl) ?_
        refine lv_goto (tgt := 93) hx hb dX3_patch_84 (by decide) ?_
        refine lv_istore (lv' := [(6, .int i), (0, .ref om), (1, .int p0), (2, .int p1), (3, .int p2), (4, .int ws), (5, .int i)]) hx hb dX3_patch_93 hl (by decide) rfl (fun ls hl => ?_)
        refine lv_aload_n hx hb dX3_patch_95 rfl (lv_at hl 1 rfl) ?_
        refine va_get (D := (dC, dI)) (ci := 3) (v := .ref ob) (C := RX3) (T := TX3) (N := 19) hx hb hts inGX3 hown hK hP 0 rfl rfl 3 (by decide) (hts _ wd440) (fun _ h9 => h9) rfl dX3_patch_96 ?_
        refine lv_iload_n hx hb dX3_patch_99 rfl (lv_at hl 2 rfl) ?_
        refine lv_iload hx hb dX3_patch_100 (lv_at hl 6 rfl) ?_
        refine lv_iadd hx hb dX3_patch_102 ?_
        refine va_zald hx hb hK hP 1 0 rfl rfl (pa_in hp c_72) dX3_patch_103 ?_
        refine lv_if_eq (tgt := 117) hx hb dX3_patch_104 (by decide) (fun c_104 => ?_) (fun c_104 => ?_)
        · refine lv_iload hx hb dX3_patch_117 (lv_at hl 5 rfl) ?_
          refine lv_istore (lv' := [(4, .int ws), (6, .int i), (0, .ref om), (1, .int p0), (2, .int p1), (3, .int p2), (5, .int i)]) hx hb dX3_patch_119 hl (by decide) rfl (fun ls hl => ?_)
          refine lv_aload_n hx hb dX3_patch_121 rfl (lv_at hl 2 rfl) ?_
          refine va_get (D := (dC, dI)) (ci := 3) (v := .ref ob) (C := RX3) (T := TX3) (N := 19) hx hb hts inGX3 hown hK hP 0 rfl rfl 3 (by decide) (hts _ wd440) (fun _ h9 => h9) rfl dX3_patch_122 ?_
          refine lv_iload_n hx hb dX3_patch_125 rfl (lv_at hl 3 rfl) ?_
          refine lv_iload hx hb dX3_patch_126 (lv_at hl 6 rfl) ?_
          refine lv_iadd hx hb dX3_patch_128 ?_
          refine lv_iload_n hx hb dX3_patch_129 rfl (lv_at hl 5 rfl) ?_
          refine lv_iload hx hb dX3_patch_130 (lv_at hl 1 rfl) ?_
          refine lv_iushr (v := (p2.toUInt32 >>> (i.toUInt32 &&& Int32.toUInt32 31)).toInt32) hx hb dX3_patch_132 rfl ?_
          refine lv_iconst (v := 1) hx hb dX3_patch_133 (by decide) ?_
          refine lv_iand hx hb dX3_patch_134 ?_
          refine lv_iconst (v := 1) hx hb dX3_patch_135 (by decide) ?_
          refine lv_icmp_ne (tgt := 143) hx hb dX3_patch_136 (by decide) (fun c_136 => ?_) (fun c_136 => ?_)
          · refine lv_iconst (v := 0) hx hb dX3_patch_143 (by decide) ?_
            refine va_zast hx hb hK hP hD hS 1 0 rfl rfl (pa_in hp c_72) dX3_patch_144 (fun H locs hP hD hS => ?_)
            have hP : va_P (dC, dI) vwCl [(om, .inr (3, [.int th, .int st, .int lo, .ref ob, .int bm.2.1, .int bm.2.2.1, .int bm.2.2.2.1, .int bm.2.2.2.2, .ref ok, .int km.2, .int qm.1, .int qm.2.1, .int qm.2.2.1, .int qm.2.2.2, .int bd, .int ym.1, .int ym.2.1, .int ym.2.2.1, .int ym.2.2.2])), (ob, .inl (cZ, 5200, .inl (upd bm.1 (p0 + i).toNatClampNeg (vp_nar .boolean 0)))), (ok, .inl (cK, 600, .inl km.1))] H := hP
            have hD : va_D A [(om, .inr (3, [.int th, .int st, .int lo, .ref ob, .int bm.2.1, .int bm.2.2.1, .int bm.2.2.2.1, .int bm.2.2.2.2, .ref ok, .int km.2, .int qm.1, .int qm.2.1, .int qm.2.2.1, .int qm.2.2.2, .int bd, .int ym.1, .int ym.2.1, .int ym.2.2.1, .int ym.2.2.2])), (ob, .inl (cZ, 5200, .inl (upd bm.1 (p0 + i).toNatClampNeg (vp_nar .boolean 0)))), (ok, .inl (cK, 600, .inl km.1))] := hD
            obtain ⟨i_7, ei_7⟩ : ∃ y : Int32, y = i + 1 := ⟨_, rfl⟩
            refine lv_iinc (v := i_7) (lv' := [(5, .int i_7), (4, .int ws), (6, .int i), (0, .ref om), (1, .int p0), (2, .int p1), (3, .int p2)]) hx hb dX3_patch_145 hl (k := 6) rfl (by rw [ei_7]; rfl) (by decide) rfl (fun ls hl => ?_)
            refine lv_goto (tgt := 69) hx hb dX3_patch_148 (by decide) ?_
            exact ih th (upd bm.1 (p0 + i).toNatClampNeg (vp_nar .boolean 0), bm.2.1, bm.2.2.1, bm.2.2.2.1, bm.2.2.2.2) km qm bd ym p0 p1 p2 ws i_7 (fuel_step2 hf (nle_lt c_72) (by assumption)) (pa_back hp c_72 (by assumption)) ((plX3_patch_l69_5 st lo n th bm km qm bd ym p0 p1 p2 ws i c_72 c_79 c_104 c_136 _ ei_7).trans hz) _ _ (hP.sub (ws' := [(om, .inr (3, [.int th, .int st, .int lo, .ref ob, .int ((upd bm.1 (p0 + i).toNatClampNeg (vp_nar .boolean 0), bm.2.1, bm.2.2.1, bm.2.2.2.1, bm.2.2.2.2).2.1), .int ((upd bm.1 (p0 + i).toNatClampNeg (vp_nar .boolean 0), bm.2.1, bm.2.2.1, bm.2.2.2.1, bm.2.2.2.2).2.2.1), .int ((upd bm.1 (p0 + i).toNatClampNeg (vp_nar .boolean 0), bm.2.1, bm.2.2.1, bm.2.2.2.1, bm.2.2.2.2).2.2.2.1), .int ((upd bm.1 (p0 + i).toNatClampNeg (vp_nar .boolean 0), bm.2.1, bm.2.2.1, bm.2.2.2.1, bm.2.2.2.2).2.2.2.2), .ref ok, .int km.2, .int qm.1, .int qm.2.1, .int qm.2.2.1, .int qm.2.2.2, .int bd, .int ym.1, .int ym.2.1, .int ym.2.2.1, .int ym.2.2.2])), (ob, .inl (cZ, 5200, .inl ((upd bm.1 (p0 + i).toNatClampNeg (vp_nar .boolean 0), bm.2.1, bm.2.2.1, bm.2.2.2.1, bm.2.2.2.2).1))), (ok, .inl (cK, 600, .inl km.1))]) [0, 1, 2] rfl) (hD.sub (ws' := [(om, .inr (3, [.int th, .int st, .int lo, .ref ob, .int ((upd bm.1 (p0 + i).toNatClampNeg (vp_nar .boolean 0), bm.2.1, bm.2.2.1, bm.2.2.2.1, bm.2.2.2.2).2.1), .int ((upd bm.1 (p0 + i).toNatClampNeg (vp_nar .boolean 0), bm.2.1, bm.2.2.1, bm.2.2.2.1, bm.2.2.2.2).2.2.1), .int ((upd bm.1 (p0 + i).toNatClampNeg (vp_nar .boolean 0), bm.2.1, bm.2.2.1, bm.2.2.2.1, bm.2.2.2.2).2.2.2.1), .int ((upd bm.1 (p0 + i).toNatClampNeg (vp_nar .boolean 0), bm.2.1, bm.2.2.1, bm.2.2.2.1, bm.2.2.2.2).2.2.2.2), .ref ok, .int km.2, .int qm.1, .int qm.2.1, .int qm.2.2.1, .int qm.2.2.2, .int bd, .int ym.1, .int ym.2.1, .int ym.2.2.1, .int ym.2.2.2])), (ob, .inl (cZ, 5200, .inl ((upd bm.1 (p0 + i).toNatClampNeg (vp_nar .boolean 0), bm.2.1, bm.2.2.1, bm.2.2.2.1, bm.2.2.2.2).1))), (ok, .inl (cK, 600, .inl km.1))]) [0, 1, 2] (by decide) rfl) hS ls (lv_sub hl [3, 4, 5, 6, 1, 0] rfl)
          · refine lv_iconst (v := 1) hx hb dX3_patch_139 (by decide) ?_
            refine lv_goto (tgt := 144) hx hb dX3_patch_140 (by decide) ?_
            refine va_zast hx hb hK hP hD hS 1 0 rfl rfl (pa_in hp c_72) dX3_patch_144 (fun H locs hP hD hS => ?_)
            have hP : va_P (dC, dI) vwCl [(om, .inr (3, [.int th, .int st, .int lo, .ref ob, .int bm.2.1, .int bm.2.2.1, .int bm.2.2.2.1, .int bm.2.2.2.2, .ref ok, .int km.2, .int qm.1, .int qm.2.1, .int qm.2.2.1, .int qm.2.2.2, .int bd, .int ym.1, .int ym.2.1, .int ym.2.2.1, .int ym.2.2.2])), (ob, .inl (cZ, 5200, .inl (upd bm.1 (p0 + i).toNatClampNeg (vp_nar .boolean 1)))), (ok, .inl (cK, 600, .inl km.1))] H := hP
            have hD : va_D A [(om, .inr (3, [.int th, .int st, .int lo, .ref ob, .int bm.2.1, .int bm.2.2.1, .int bm.2.2.2.1, .int bm.2.2.2.2, .ref ok, .int km.2, .int qm.1, .int qm.2.1, .int qm.2.2.1, .int qm.2.2.2, .int bd, .int ym.1, .int ym.2.1, .int ym.2.2.1, .int ym.2.2.2])), (ob, .inl (cZ, 5200, .inl (upd bm.1 (p0 + i).toNatClampNeg (vp_nar .boolean 1)))), (ok, .inl (cK, 600, .inl km.1))] := hD
            obtain ⟨i_8, ei_8⟩ : ∃ y : Int32, y = i + 1 := ⟨_, rfl⟩
            refine lv_iinc (v := i_8) (lv' := [(5, .int i_8), (4, .int ws), (6, .int i), (0, .ref om), (1, .int p0), (2, .int p1), (3, .int p2)]) hx hb dX3_patch_145 hl (k := 6) rfl (by rw [ei_8]; rfl) (by decide) rfl (fun ls hl => ?_)
            refine lv_goto (tgt := 69) hx hb dX3_patch_148 (by decide) ?_
            exact ih th (upd bm.1 (p0 + i).toNatClampNeg (vp_nar .boolean 1), bm.2.1, bm.2.2.1, bm.2.2.2.1, bm.2.2.2.2) km qm bd ym p0 p1 p2 ws i_8 (fuel_step2 hf (nle_lt c_72) (by assumption)) (pa_back hp c_72 (by assumption)) ((plX3_patch_l69_6 st lo n th bm km qm bd ym p0 p1 p2 ws i c_72 c_79 c_104 c_136 _ ei_8).trans hz) _ _ (hP.sub (ws' := [(om, .inr (3, [.int th, .int st, .int lo, .ref ob, .int ((upd bm.1 (p0 + i).toNatClampNeg (vp_nar .boolean 1), bm.2.1, bm.2.2.1, bm.2.2.2.1, bm.2.2.2.2).2.1), .int ((upd bm.1 (p0 + i).toNatClampNeg (vp_nar .boolean 1), bm.2.1, bm.2.2.1, bm.2.2.2.1, bm.2.2.2.2).2.2.1), .int ((upd bm.1 (p0 + i).toNatClampNeg (vp_nar .boolean 1), bm.2.1, bm.2.2.1, bm.2.2.2.1, bm.2.2.2.2).2.2.2.1), .int ((upd bm.1 (p0 + i).toNatClampNeg (vp_nar .boolean 1), bm.2.1, bm.2.2.1, bm.2.2.2.1, bm.2.2.2.2).2.2.2.2), .ref ok, .int km.2, .int qm.1, .int qm.2.1, .int qm.2.2.1, .int qm.2.2.2, .int bd, .int ym.1, .int ym.2.1, .int ym.2.2.1, .int ym.2.2.2])), (ob, .inl (cZ, 5200, .inl ((upd bm.1 (p0 + i).toNatClampNeg (vp_nar .boolean 1), bm.2.1, bm.2.2.1, bm.2.2.2.1, bm.2.2.2.2).1))), (ok, .inl (cK, 600, .inl km.1))]) [0, 1, 2] rfl) (hD.sub (ws' := [(om, .inr (3, [.int th, .int st, .int lo, .ref ob, .int ((upd bm.1 (p0 + i).toNatClampNeg (vp_nar .boolean 1), bm.2.1, bm.2.2.1, bm.2.2.2.1, bm.2.2.2.2).2.1), .int ((upd bm.1 (p0 + i).toNatClampNeg (vp_nar .boolean 1), bm.2.1, bm.2.2.1, bm.2.2.2.1, bm.2.2.2.2).2.2.1), .int ((upd bm.1 (p0 + i).toNatClampNeg (vp_nar .boolean 1), bm.2.1, bm.2.2.1, bm.2.2.2.1, bm.2.2.2.2).2.2.2.1), .int ((upd bm.1 (p0 + i).toNatClampNeg (vp_nar .boolean 1), bm.2.1, bm.2.2.1, bm.2.2.2.1, bm.2.2.2.2).2.2.2.2), .ref ok, .int km.2, .int qm.1, .int qm.2.1, .int qm.2.2.1, .int qm.2.2.2, .int bd, .int ym.1, .int ym.2.1, .int ym.2.2.1, .int ym.2.2.2])), (ob, .inl (cZ, 5200, .inl ((upd bm.1 (p0 + i).toNatClampNeg (vp_nar .boolean 1), bm.2.1, bm.2.2.1, bm.2.2.2.1, bm.2.2.2.2).1))), (ok, .inl (cK, 600, .inl km.1))]) [0, 1, 2] (by decide) rfl) hS ls (lv_sub hl [3, 4, 5, 6, 1, 0] rfl)
        · refine lv_iload hx hb dX3_patch_107 (lv_at hl 5 rfl) ?_
          refine lv_iconst (v := 1) hx hb dX3_patch_109 (by decide) ?_
          refine lv_iload hx hb dX3_patch_110 (lv_at hl 0 rfl) ?_
          refine lv_ishl hx hb dX3_patch_112 ?_
          refine lv_ior hx hb dX3_patch_113 ?_
          refine lv_goto (tgt := 119) hx hb dX3_patch_114 (by decide) ?_
          refine lv_topi (fun x_9 ex_9 => ?_)
          refine lv_istore (lv' := [(4, .int x_9), (6, .int i), (0, .ref om), (1, .int p0), (2, .int p1), (3, .int p2), (5, .int i)]) hx hb dX3_patch_119 hl (by decide) rfl (fun ls hl => ?_)
          refine lv_aload_n hx hb dX3_patch_121 rfl (lv_at hl 2 rfl) ?_
          refine va_get (D := (dC, dI)) (ci := 3) (v := .ref ob) (C := RX3) (T := TX3) (N := 19) hx hb hts inGX3 hown hK hP 0 rfl rfl 3 (by decide) (hts _ wd440) (fun _ h9 => h9) rfl dX3_patch_122 ?_
          refine lv_iload_n hx hb dX3_patch_125 rfl (lv_at hl 3 rfl) ?_
          refine lv_iload hx hb dX3_patch_126 (lv_at hl 6 rfl) ?_
          refine lv_iadd hx hb dX3_patch_128 ?_
          refine lv_iload_n hx hb dX3_patch_129 rfl (lv_at hl 5 rfl) ?_
          refine lv_iload hx hb dX3_patch_130 (lv_at hl 1 rfl) ?_
          refine lv_iushr (v := (p2.toUInt32 >>> (i.toUInt32 &&& Int32.toUInt32 31)).toInt32) hx hb dX3_patch_132 rfl ?_
          refine lv_iconst (v := 1) hx hb dX3_patch_133 (by decide) ?_
          refine lv_iand hx hb dX3_patch_134 ?_
          refine lv_iconst (v := 1) hx hb dX3_patch_135 (by decide) ?_
          refine lv_icmp_ne (tgt := 143) hx hb dX3_patch_136 (by decide) (fun c_136 => ?_) (fun c_136 => ?_)
          · refine lv_iconst (v := 0) hx hb dX3_patch_143 (by decide) ?_
            refine va_zast hx hb hK hP hD hS 1 0 rfl rfl (pa_in hp c_72) dX3_patch_144 (fun H locs hP hD hS => ?_)
            have hP : va_P (dC, dI) vwCl [(om, .inr (3, [.int th, .int st, .int lo, .ref ob, .int bm.2.1, .int bm.2.2.1, .int bm.2.2.2.1, .int bm.2.2.2.2, .ref ok, .int km.2, .int qm.1, .int qm.2.1, .int qm.2.2.1, .int qm.2.2.2, .int bd, .int ym.1, .int ym.2.1, .int ym.2.2.1, .int ym.2.2.2])), (ob, .inl (cZ, 5200, .inl (upd bm.1 (p0 + i).toNatClampNeg (vp_nar .boolean 0)))), (ok, .inl (cK, 600, .inl km.1))] H := hP
            have hD : va_D A [(om, .inr (3, [.int th, .int st, .int lo, .ref ob, .int bm.2.1, .int bm.2.2.1, .int bm.2.2.2.1, .int bm.2.2.2.2, .ref ok, .int km.2, .int qm.1, .int qm.2.1, .int qm.2.2.1, .int qm.2.2.2, .int bd, .int ym.1, .int ym.2.1, .int ym.2.2.1, .int ym.2.2.2])), (ob, .inl (cZ, 5200, .inl (upd bm.1 (p0 + i).toNatClampNeg (vp_nar .boolean 0)))), (ok, .inl (cK, 600, .inl km.1))] := hD
            obtain ⟨i_10, ei_10⟩ : ∃ y : Int32, y = i + 1 := ⟨_, rfl⟩
            refine lv_iinc (v := i_10) (lv' := [(5, .int i_10), (4, .int x_9), (6, .int i), (0, .ref om), (1, .int p0), (2, .int p1), (3, .int p2)]) hx hb dX3_patch_145 hl (k := 6) rfl (by rw [ei_10]; rfl) (by decide) rfl (fun ls hl => ?_)
            refine lv_goto (tgt := 69) hx hb dX3_patch_148 (by decide) ?_
            exact ih th (upd bm.1 (p0 + i).toNatClampNeg (vp_nar .boolean 0), bm.2.1, bm.2.2.1, bm.2.2.2.1, bm.2.2.2.2) km qm bd ym p0 p1 p2 x_9 i_10 (fuel_step2 hf (nle_lt c_72) (by assumption)) (pa_back hp c_72 (by assumption)) ((plX3_patch_l69_7 st lo n th bm km qm bd ym p0 p1 p2 ws i c_72 c_79 c_104 _ ex_9 c_136 _ ei_10).trans hz) _ _ (hP.sub (ws' := [(om, .inr (3, [.int th, .int st, .int lo, .ref ob, .int ((upd bm.1 (p0 + i).toNatClampNeg (vp_nar .boolean 0), bm.2.1, bm.2.2.1, bm.2.2.2.1, bm.2.2.2.2).2.1), .int ((upd bm.1 (p0 + i).toNatClampNeg (vp_nar .boolean 0), bm.2.1, bm.2.2.1, bm.2.2.2.1, bm.2.2.2.2).2.2.1), .int ((upd bm.1 (p0 + i).toNatClampNeg (vp_nar .boolean 0), bm.2.1, bm.2.2.1, bm.2.2.2.1, bm.2.2.2.2).2.2.2.1), .int ((upd bm.1 (p0 + i).toNatClampNeg (vp_nar .boolean 0), bm.2.1, bm.2.2.1, bm.2.2.2.1, bm.2.2.2.2).2.2.2.2), .ref ok, .int km.2, .int qm.1, .int qm.2.1, .int qm.2.2.1, .int qm.2.2.2, .int bd, .int ym.1, .int ym.2.1, .int ym.2.2.1, .int ym.2.2.2])), (ob, .inl (cZ, 5200, .inl ((upd bm.1 (p0 + i).toNatClampNeg (vp_nar .boolean 0), bm.2.1, bm.2.2.1, bm.2.2.2.1, bm.2.2.2.2).1))), (ok, .inl (cK, 600, .inl km.1))]) [0, 1, 2] rfl) (hD.sub (ws' := [(om, .inr (3, [.int th, .int st, .int lo, .ref ob, .int ((upd bm.1 (p0 + i).toNatClampNeg (vp_nar .boolean 0), bm.2.1, bm.2.2.1, bm.2.2.2.1, bm.2.2.2.2).2.1), .int ((upd bm.1 (p0 + i).toNatClampNeg (vp_nar .boolean 0), bm.2.1, bm.2.2.1, bm.2.2.2.1, bm.2.2.2.2).2.2.1), .int ((upd bm.1 (p0 + i).toNatClampNeg (vp_nar .boolean 0), bm.2.1, bm.2.2.1, bm.2.2.2.1, bm.2.2.2.2).2.2.2.1), .int ((upd bm.1 (p0 + i).toNatClampNeg (vp_nar .boolean 0), bm.2.1, bm.2.2.1, bm.2.2.2.1, bm.2.2.2.2).2.2.2.2), .ref ok, .int km.2, .int qm.1, .int qm.2.1, .int qm.2.2.1, .int qm.2.2.2, .int bd, .int ym.1, .int ym.2.1, .int ym.2.2.1, .int ym.2.2.2])), (ob, .inl (cZ, 5200, .inl ((upd bm.1 (p0 + i).toNatClampNeg (vp_nar .boolean 0), bm.2.1, bm.2.2.1, bm.2.2.2.1, bm.2.2.2.2).1))), (ok, .inl (cK, 600, .inl km.1))]) [0, 1, 2] (by decide) rfl) hS ls (lv_sub hl [3, 4, 5, 6, 1, 0] rfl)
          · refine lv_iconst (v := 1) hx hb dX3_patch_139 (by decide) ?_
            refine lv_goto (tgt := 144) hx hb dX3_patch_140 (by decide) ?_
            refine va_zast hx hb hK hP hD hS 1 0 rfl rfl (pa_in hp c_72) dX3_patch_144 (fun H locs hP hD hS => ?_)
            have hP : va_P (dC, dI) vwCl [(om, .inr (3, [.int th, .int st, .int lo, .ref ob, .int bm.2.1, .int bm.2.2.1, .int bm.2.2.2.1, .int bm.2.2.2.2, .ref ok, .int km.2, .int qm.1, .int qm.2.1, .int qm.2.2.1, .int qm.2.2.2, .int bd, .int ym.1, .int ym.2.1, .int ym.2.2.1, .int ym.2.2.2])), (ob, .inl (cZ, 5200, .inl (upd bm.1 (p0 + i).toNatClampNeg (vp_nar .boolean 1)))), (ok, .inl (cK, 600, .inl km.1))] H := hP
            have hD : va_D A [(om, .inr (3, [.int th, .int st, .int lo, .ref ob, .int bm.2.1, .int bm.2.2.1, .int bm.2.2.2.1, .int bm.2.2.2.2, .ref ok, .int km.2, .int qm.1, .int qm.2.1, .int qm.2.2.1, .int qm.2.2.2, .int bd, .int ym.1, .int ym.2.1, .int ym.2.2.1, .int ym.2.2.2])), (ob, .inl (cZ, 5200, .inl (upd bm.1 (p0 + i).toNatClampNeg (vp_nar .boolean 1)))), (ok, .inl (cK, 600, .inl km.1))] := hD
            obtain ⟨i_11, ei_11⟩ : ∃ y : Int32, y = i + 1 := ⟨_, rfl⟩
            refine lv_iinc (v := i_11) (lv' := [(5, .int i_11), (4, .int x_9), (6, .int i), (0, .ref om), (1, .int p0), (2, .int p1), (3, .int p2)]) hx hb dX3_patch_145 hl (k := 6) rfl (by rw [ei_11]; rfl) (by decide) rfl (fun ls hl => ?_)
            refine lv_goto (tgt := 69) hx hb dX3_patch_148 (by decide) ?_
            exact ih th (upd bm.1 (p0 + i).toNatClampNeg (vp_nar .boolean 1), bm.2.1, bm.2.2.1, bm.2.2.2.1, bm.2.2.2.2) km qm bd ym p0 p1 p2 x_9 i_11 (fuel_step2 hf (nle_lt c_72) (by assumption)) (pa_back hp c_72 (by assumption)) ((plX3_patch_l69_8 st lo n th bm km qm bd ym p0 p1 p2 ws i c_72 c_79 c_104 _ ex_9 c_136 _ ei_11).trans hz) _ _ (hP.sub (ws' := [(om, .inr (3, [.int th, .int st, .int lo, .ref ob, .int ((upd bm.1 (p0 + i).toNatClampNeg (vp_nar .boolean 1), bm.2.1, bm.2.2.1, bm.2.2.2.1, bm.2.2.2.2).2.1), .int ((upd bm.1 (p0 + i).toNatClampNeg (vp_nar .boolean 1), bm.2.1, bm.2.2.1, bm.2.2.2.1, bm.2.2.2.2).2.2.1), .int ((upd bm.1 (p0 + i).toNatClampNeg (vp_nar .boolean 1), bm.2.1, bm.2.2.1, bm.2.2.2.1, bm.2.2.2.2).2.2.2.1), .int ((upd bm.1 (p0 + i).toNatClampNeg (vp_nar .boolean 1), bm.2.1, bm.2.2.1, bm.2.2.2.1, bm.2.2.2.2).2.2.2.2), .ref ok, .int km.2, .int qm.1, .int qm.2.1, .int qm.2.2.1, .int qm.2.2.2, .int bd, .int ym.1, .int ym.2.1, .int ym.2.2.1, .int ym.2.2.2])), (ob, .inl (cZ, 5200, .inl ((upd bm.1 (p0 + i).toNatClampNeg (vp_nar .boolean 1), bm.2.1, bm.2.2.1, bm.2.2.2.1, bm.2.2.2.2).1))), (ok, .inl (cK, 600, .inl km.1))]) [0, 1, 2] rfl) (hD.sub (ws' := [(om, .inr (3, [.int th, .int st, .int lo, .ref ob, .int ((upd bm.1 (p0 + i).toNatClampNeg (vp_nar .boolean 1), bm.2.1, bm.2.2.1, bm.2.2.2.1, bm.2.2.2.2).2.1), .int ((upd bm.1 (p0 + i).toNatClampNeg (vp_nar .boolean 1), bm.2.1, bm.2.2.1, bm.2.2.2.1, bm.2.2.2.2).2.2.1), .int ((upd bm.1 (p0 + i).toNatClampNeg (vp_nar .boolean 1), bm.2.1, bm.2.2.1, bm.2.2.2.1, bm.2.2.2.2).2.2.2.1), .int ((upd bm.1 (p0 + i).toNatClampNeg (vp_nar .boolean 1), bm.2.1, bm.2.2.1, bm.2.2.2.1, bm.2.2.2.2).2.2.2.2), .ref ok, .int km.2, .int qm.1, .int qm.2.1, .int qm.2.2.1, .int qm.2.2.2, .int bd, .int ym.1, .int ym.2.1, .int ym.2.2.1, .int ym.2.2.2])), (ob, .inl (cZ, 5200, .inl ((upd bm.1 (p0 + i).toNatClampNeg (vp_nar .boolean 1), bm.2.1, bm.2.2.1, bm.2.2.2.1, bm.2.2.2.2).1))), (ok, .inl (cK, 600, .inl km.1))]) [0, 1, 2] (by decide) rfl) hS ls (lv_sub hl [3, 4, 5, 6, 1, 0] rfl)
set_option maxHeartbeats 4000000 in
set_option maxRecDepth 100000 in
theorem kX3_patch_51 {p : Program} {l : Launch} {e : Env} {s : State} {m : MethodId} {args : Array Value} {below : List Frame} {meth : Method} {c : Code} {dC : Nat → ClassId} {dI : Nat → Nat → Nat} {cZ cK : ClassId} {om ob ok : Nat} {st : Int32} {lo : Int32} {z : Int32 × Int32 × Bm} {A : Nat → Prop} (hx : p.tables.exec = Jvm.exec) (hb : c.code = cX3_patch) (hr : meth.sig.returnType = (some .int)) (hml : c.maxLocals = 7) (hown : s.vm.findClass RX3 = some m.cls) (hts : ∀ w ∈ G, w.before args s = true) (hlocks : meth.locks = false) (hA : ∀ q : Nat, s.heap.size ≤ q → A q) (hZ : zOk s) (hK : va_K (dC, dI) vwCl [(cZ, .boolean), (cK, .int)] s) : ∀ (th : Int32) (bm : Bm) (km : Rw) (qm : Tk) (bd : Int32) (ym : Tk) (p0 : Int32) (p1 : Int32) (p2 : Int32) (v : Int32), (wok bm 400) → (v ≤ 0 → paL bm p0 p1 0) → LX3_patch_51 st lo th bm km qm bd ym p0 p1 p2 v = z → ∀ (H : Heap) (locs : List Loc), va_P (dC, dI) vwCl [(om, .inr (3, [.int th, .int st, .int lo, .ref ob, .int bm.2.1, .int bm.2.2.1, .int bm.2.2.2.1, .int bm.2.2.2.2, .ref ok, .int km.2, .int qm.1, .int qm.2.1, .int qm.2.2.1, .int qm.2.2.2, .int bd, .int ym.1, .int ym.2.1, .int ym.2.2.1, .int ym.2.2.2])), (ob, .inl (cZ, 5200, .inl bm.1)), (ok, .inl (cK, 600, .inl km.1))] H → va_D A [(om, .inr (3, [.int th, .int st, .int lo, .ref ob, .int bm.2.1, .int bm.2.2.1, .int bm.2.2.2.1, .int bm.2.2.2.2, .ref ok, .int km.2, .int qm.1, .int qm.2.1, .int qm.2.2.1, .int qm.2.2.2, .int bd, .int ym.1, .int ym.2.1, .int ym.2.2.1, .int ym.2.2.2])), (ob, .inl (cZ, 5200, .inl bm.1)), (ok, .inl (cK, 600, .inl km.1))] → va_S A s.heap H locs → ∀ (ls : Array Slot), lv_has ls 7 [(0, .ref om), (1, .int p0), (2, .int p1), (3, .int p2)] → W p l e (headSpec (Cond.code yX3_patch cX3_patch 7 (some .int) :: G) ({ frames := 1, cells := 0, slots := 0, locals := 25 } : Room)).room s m args below meth c H locs 0 0 (MQ below (va_Qi (fun (r : Int32) (u : Int32 × Bm) => (r, u) = z) (fun (u : Int32 × Bm) (t : State) => va_P (dC, dI) vwCl [(om, .inr (3, [.int u.1, .int st, .int lo, .ref ob, .int u.2.2.1, .int u.2.2.2.1, .int u.2.2.2.2.1, .int u.2.2.2.2.2, .ref ok, .int km.2, .int qm.1, .int qm.2.1, .int qm.2.2.1, .int qm.2.2.2, .int bd, .int ym.1, .int ym.2.1, .int ym.2.2.1, .int ym.2.2.2])), (ob, .inl (cZ, 5200, .inl u.2.1)), (ok, .inl (cK, 600, .inl km.1))] t.heap ∧ va_D A [(om, .inr (3, [.int u.1, .int st, .int lo, .ref ob, .int u.2.2.1, .int u.2.2.2.1, .int u.2.2.2.2.1, .int u.2.2.2.2.2, .ref ok, .int km.2, .int qm.1, .int qm.2.1, .int qm.2.2.1, .int qm.2.2.2, .int bd, .int ym.1, .int ym.2.1, .int ym.2.2.1, .int ym.2.2.2])), (ob, .inl (cZ, 5200, .inl u.2.1)), (ok, .inl (cK, 600, .inl km.1))]) A) args s 0 0 A) (F0 m 51 ls [.int v, .ref om]) := by
  intro th bm km qm bd ym p0 p1 p2 v hW hv hz H locs hP hD hS ls hl
  refine va_put (D := (dC, dI)) (ci := 3) (v := .int v) (ty := .int) (C := RX3) (T := TX3) (N := 19) hx hb hts inGX3 tyX3 tyX3_ok nmX3 hown hK hP hD hS 0 rfl rfl 0 (by decide) (hts _ wd437) (fun _ h9 => h9) rfl (by decide +kernel) rfl rfl (Nat.le_of_ble_eq_true rfl) dX3_patch_51 (fun H locs hP hD hS => ?_)
  have hP : va_P (dC, dI) vwCl [(om, .inr (3, [.int v, .int st, .int lo, .ref ob, .int bm.2.1, .int bm.2.2.1, .int bm.2.2.2.1, .int bm.2.2.2.2, .ref ok, .int km.2, .int qm.1, .int qm.2.1, .int qm.2.2.1, .int qm.2.2.2, .int bd, .int ym.1, .int ym.2.1, .int ym.2.2.1, .int ym.2.2.2])), (ob, .inl (cZ, 5200, .inl bm.1)), (ok, .inl (cK, 600, .inl km.1))] H := hP
  have hD : va_D A [(om, .inr (3, [.int v, .int st, .int lo, .ref ob, .int bm.2.1, .int bm.2.2.1, .int bm.2.2.2.1, .int bm.2.2.2.2, .ref ok, .int km.2, .int qm.1, .int qm.2.1, .int qm.2.2.1, .int qm.2.2.2, .int bd, .int ym.1, .int ym.2.1, .int ym.2.2.1, .int ym.2.2.2])), (ob, .inl (cZ, 5200, .inl bm.1)), (ok, .inl (cK, 600, .inl km.1))] := hD
  refine lv_aload_n hx hb dX3_patch_54 rfl (lv_at hl 0 rfl) ?_
  refine va_get (D := (dC, dI)) (ci := 3) (v := .int v) (C := RX3) (T := TX3) (N := 19) hx hb hts inGX3 hown hK hP 0 rfl rfl 0 (by decide) (hts _ wd437) (fun _ h9 => h9) rfl dX3_patch_55 ?_
  refine lv_if_le (tgt := 63) hx hb dX3_patch_58 (by decide) (fun c_58 => ?_) (fun c_58 => ?_)
  · refine lv_iconst (v := 0) hx hb dX3_patch_63 (by decide) ?_
    refine lv_istore (lv' := [(4, .int 0), (0, .ref om), (1, .int p0), (2, .int p1), (3, .int p2)]) hx hb dX3_patch_64 hl (by decide) rfl (fun ls hl => ?_)
    refine lv_iconst (v := 0) hx hb dX3_patch_66 (by decide) ?_
    refine lv_istore (lv' := [(5, .int 0), (4, .int 0), (0, .ref om), (1, .int p0), (2, .int p1), (3, .int p2)]) hx hb dX3_patch_67 hl (by decide) rfl (fun ls hl => ?_)
    exact kX3_patch_69 hx hb hr hml hown hts hlocks hA hZ hK (fz 0 p1) v bm km qm bd ym p0 p1 p2 0 0 (fz_ok _ _) (hv c_58) ((plX3_patch_l51_0 st lo th bm km qm bd ym p0 p1 p2 v c_58).trans hz) _ _ (hP.sub (ws' := [(om, .inr (3, [.int v, .int st, .int lo, .ref ob, .int bm.2.1, .int bm.2.2.1, .int bm.2.2.2.1, .int bm.2.2.2.2, .ref ok, .int km.2, .int qm.1, .int qm.2.1, .int qm.2.2.1, .int qm.2.2.2, .int bd, .int ym.1, .int ym.2.1, .int ym.2.2.1, .int ym.2.2.2])), (ob, .inl (cZ, 5200, .inl bm.1)), (ok, .inl (cK, 600, .inl km.1))]) [0, 1, 2] rfl) (hD.sub (ws' := [(om, .inr (3, [.int v, .int st, .int lo, .ref ob, .int bm.2.1, .int bm.2.2.1, .int bm.2.2.2.1, .int bm.2.2.2.2, .ref ok, .int km.2, .int qm.1, .int qm.2.1, .int qm.2.2.1, .int qm.2.2.2, .int bd, .int ym.1, .int ym.2.1, .int ym.2.2.1, .int ym.2.2.2])), (ob, .inl (cZ, 5200, .inl bm.1)), (ok, .inl (cK, 600, .inl km.1))]) [0, 1, 2] (by decide) rfl) hS ls (lv_sub hl [2, 3, 4, 5, 1, 0] rfl)
  · refine lv_iconst (v := 0) hx hb dX3_patch_61 (by decide) ?_
    have hP9 := hP.sub (ws' := [(om, .inr (3, [.int v, .int st, .int lo, .ref ob, .int bm.2.1, .int bm.2.2.1, .int bm.2.2.2.1, .int bm.2.2.2.2, .ref ok, .int km.2, .int qm.1, .int qm.2.1, .int qm.2.2.1, .int qm.2.2.2, .int bd, .int ym.1, .int ym.2.1, .int ym.2.2.1, .int ym.2.2.2])), (ob, .inl (cZ, 5200, .inl bm.1)), (ok, .inl (cK, 600, .inl km.1))]) [0, 1, 2] rfl
    have hD9 := hD.sub (ws' := [(om, .inr (3, [.int v, .int st, .int lo, .ref ob, .int bm.2.1, .int bm.2.2.1, .int bm.2.2.2.1, .int bm.2.2.2.2, .ref ok, .int km.2, .int qm.1, .int qm.2.1, .int qm.2.2.1, .int qm.2.2.2, .int bd, .int ym.1, .int ym.2.1, .int ym.2.2.1, .int ym.2.2.2])), (ob, .inl (cZ, 5200, .inl bm.1)), (ok, .inl (cK, 600, .inl km.1))]) [0, 1, 2] (by decide) rfl
    exact W.iret (v := 0) hx hb hr (fun t ht hW => ⟨⟨0, (v, bm), rfl, ((plX3_patch_l51_1 st lo th bm km qm bd ym p0 p1 p2 v c_58).trans hz), by rw [ht]; exact hP9, hD9⟩, hS.F ht⟩) hS.2.2 dX3_patch_62
set_option maxHeartbeats 4000000 in
set_option maxRecDepth 100000 in
theorem mX3_patch (l : Launch) (dC : Nat → ClassId) (dI : Nat → Nat → Nat) (cZ cK : ClassId) (om ob ok : Nat) (sz : Nat) (st : Int32) (lo : Int32) (th : Int32) (bm : Bm) (km : Rw) (qm : Tk) (bd : Int32) (ym : Tk) (p0 : Int32) (p1 : Int32) (p2 : Int32) (hW : wok bm 400) : Met l yX3_patch (Cond.code yX3_patch cX3_patch 7 (some .int) :: G) ({ frames := 1, cells := 0, slots := 0, locals := 25 } : Room) (va_Pc [.ref om, .int p0, .int p1, .int p2] (fun U => U.heap.size = sz ∧ va_P (dC, dI) vwCl [(om, .inr (3, [.int th, .int st, .int lo, .ref ob, .int bm.2.1, .int bm.2.2.1, .int bm.2.2.2.1, .int bm.2.2.2.2, .ref ok, .int km.2, .int qm.1, .int qm.2.1, .int qm.2.2.1, .int qm.2.2.2, .int bd, .int ym.1, .int ym.2.1, .int ym.2.2.1, .int ym.2.2.2])), (ob, .inl (cZ, 5200, .inl bm.1)), (ok, .inl (cK, 600, .inl km.1))] U.heap ∧ va_K (dC, dI) vwCl [(cZ, .boolean), (cK, .int)] U ∧ va_D (fun _ => True) [(om, .inr (3, [.int th, .int st, .int lo, .ref ob, .int bm.2.1, .int bm.2.2.1, .int bm.2.2.2.1, .int bm.2.2.2.2, .ref ok, .int km.2, .int qm.1, .int qm.2.1, .int qm.2.2.1, .int qm.2.2.2, .int bd, .int ym.1, .int ym.2.1, .int ym.2.2.1, .int ym.2.2.2])), (ob, .inl (cZ, 5200, .inl bm.1)), (ok, .inl (cK, 600, .inl km.1))] ∧ zOk U)) (va_Qi (fun (r : Int32) (u : Int32 × Bm) => (r, u) = (FX3_patch st lo th bm km qm bd ym p0 p1 p2)) (fun (u : Int32 × Bm) (t : State) => va_P (dC, dI) vwCl [(om, .inr (3, [.int u.1, .int st, .int lo, .ref ob, .int u.2.2.1, .int u.2.2.2.1, .int u.2.2.2.2.1, .int u.2.2.2.2.2, .ref ok, .int km.2, .int qm.1, .int qm.2.1, .int qm.2.2.1, .int qm.2.2.2, .int bd, .int ym.1, .int ym.2.1, .int ym.2.2.1, .int ym.2.2.2])), (ob, .inl (cZ, 5200, .inl u.2.1)), (ok, .inl (cK, 600, .inl km.1))] t.heap ∧ va_D (va_A [(om, .inr (3, [.int th, .int st, .int lo, .ref ob, .int bm.2.1, .int bm.2.2.1, .int bm.2.2.2.1, .int bm.2.2.2.2, .ref ok, .int km.2, .int qm.1, .int qm.2.1, .int qm.2.2.1, .int qm.2.2.2, .int bd, .int ym.1, .int ym.2.1, .int ym.2.2.1, .int ym.2.2.2])), (ob, .inl (cZ, 5200, .inl bm.1)), (ok, .inl (cK, 600, .inl km.1))] sz) [(om, .inr (3, [.int u.1, .int st, .int lo, .ref ob, .int u.2.2.1, .int u.2.2.2.1, .int u.2.2.2.2.1, .int u.2.2.2.2.2, .ref ok, .int km.2, .int qm.1, .int qm.2.1, .int qm.2.2.1, .int qm.2.2.2, .int bd, .int ym.1, .int ym.2.1, .int ym.2.2.1, .int ym.2.2.2])), (ob, .inl (cZ, 5200, .inl u.2.1)), (ok, .inl (cK, 600, .inl km.1))]) (va_A [(om, .inr (3, [.int th, .int st, .int lo, .ref ob, .int bm.2.1, .int bm.2.2.1, .int bm.2.2.2.1, .int bm.2.2.2.2, .ref ok, .int km.2, .int qm.1, .int qm.2.1, .int qm.2.2.1, .int qm.2.2.2, .int bd, .int ym.1, .int ym.2.1, .int ym.2.2.1, .int ym.2.2.2])), (ob, .inl (cZ, 5200, .inl bm.1)), (ok, .inl (cK, 600, .inl km.1))] sz)) 0 0 (va_A [(om, .inr (3, [.int th, .int st, .int lo, .ref ob, .int bm.2.1, .int bm.2.2.1, .int bm.2.2.2.1, .int bm.2.2.2.2, .ref ok, .int km.2, .int qm.1, .int qm.2.1, .int qm.2.2.1, .int qm.2.2.2, .int bd, .int ym.1, .int ym.2.1, .int ym.2.2.1, .int ym.2.2.2])), (ob, .inl (cZ, 5200, .inl bm.1)), (ok, .inl (cK, 600, .inl km.1))] sz) := by
  refine Met.ofW (cc := cX3_patch) (maxL := 7) (ret := (some .int)) (by decide) rfl ?_
  intro p e s m args below meth c s₁ B hml hv
  obtain ⟨rfl, hsz, hP, hK, hD0, hZ⟩ := hv
  have hx := B.exec
  have hb := B.bytes
  have hr := B.returns
  have hts : ∀ w ∈ G, w.before [.ref om, .int p0, .int p1, .int p2].toArray s = true := fun w h => atoms_spec (ws := (Cond.code yX3_patch cX3_patch 7 (some .int) :: G)) B.pre w (List.mem_cons_of_mem _ h)
  have hown : s.vm.findClass RX3 = some m.cls := findClass_of_methodNamed B.named
  have hlocks := B.notSynchronized
  subst hsz
  have hD := hD0.self (sz := s.heap.size)
  generalize hAe : va_A [(om, .inr (3, [.int th, .int st, .int lo, .ref ob, .int bm.2.1, .int bm.2.2.1, .int bm.2.2.2.1, .int bm.2.2.2.2, .ref ok, .int km.2, .int qm.1, .int qm.2.1, .int qm.2.2.1, .int qm.2.2.2, .int bd, .int ym.1, .int ym.2.1, .int ym.2.2.1, .int ym.2.2.2])), (ob, .inl (cZ, 5200, .inl bm.1)), (ok, .inl (cK, 600, .inl km.1))] s.heap.size = A at hD ⊢
  have hA : ∀ q : Nat, s.heap.size ≤ q → A q := fun q h => by rw [← hAe]; exact Or.inr h
  have hS : va_S A s.heap s.heap [] := va_S.rf
  have hP : va_P (dC, dI) vwCl [(om, .inr (3, [.int th, .int st, .int lo, .ref ob, .int bm.2.1, .int bm.2.2.1, .int bm.2.2.2.1, .int bm.2.2.2.2, .ref ok, .int km.2, .int qm.1, .int qm.2.1, .int qm.2.2.1, .int qm.2.2.2, .int bd, .int ym.1, .int ym.2.1, .int ym.2.2.1, .int ym.2.2.2])), (ob, .inl (cZ, 5200, .inl bm.1)), (ok, .inl (cK, 600, .inl km.1))] s.heap := hP
  have hl := lv_entry ([.ref om, .int p0, .int p1, .int p2]) (n := 7) (Nat.le_of_ble_eq_true rfl)
  rw [lg_entry_eq]
  generalize (lg_sl ([.ref om, .int p0, .int p1, .int p2]) ++ List.replicate (7 - (lg_sl ([.ref om, .int p0, .int p1, .int p2])).length) Slot.unset).toArray = ls at hl ⊢
  have hl : lv_has ls 7 [(0, .ref om), (1, .int p0), (2, .int p1), (3, .int p2)] := hl
  refine lv_aload_n hx hb dX3_patch_0 rfl (lv_at hl 0 rfl) ?_
  refine lv_aload_n hx hb dX3_patch_1 rfl (lv_at hl 0 rfl) ?_
  refine va_get (D := (dC, dI)) (ci := 3) (v := .int st) (C := RX3) (T := TX3) (N := 19) hx hb hts inGX3 hown hK hP 0 rfl rfl 1 (by decide) (hts _ wd438) (fun _ h9 => h9) rfl dX3_patch_2 ?_
  refine lv_if_eq (tgt := 12) hx hb dX3_patch_5 (by decide) (fun c_5 => ?_) (fun c_5 => ?_)
  · refine lv_iload_n hx hb dX3_patch_12 rfl (lv_at hl 2 rfl) ?_
    refine lv_i2l (v := p1.toInt64) hx hb dX3_patch_13 rfl ?_
    refine lv_lconst (v := 1) hx hb dX3_patch_14 (by decide) ?_
    refine lv_ldc2 (v := 32) hx hb hown (hts _ wd504) dX3_patch_15 ?_
    refine vp_callSi (va_Run.run (va_runS (As := [.long p1.toInt64, .long 1, .long 32]) (rest := [.ref om]) ⟨hx, hb, hml, hown, hts⟩ (mX3_isIn l dC dI p1.toInt64 1 32) (va_cwS 3 hts (gS wd505 wd506 wd30 wd507) rfl rfl rfl (by decide +kernel) ⟨Nat.le_of_ble_eq_true rfl, Nat.le_of_ble_eq_true rfl⟩) ⟨fb_nw, pre_nw hZ⟩ rfl rfl hl.1 rfl (lv_room (Nat.le_of_ble_eq_true rfl)) dX3_patch_18 ⟨Nat.le_of_ble_eq_true rfl, Nat.le_of_ble_eq_true rfl⟩)) (fun r_1 hw_2 => ?_)
    refine lv_if_ne (tgt := 28) hx hb dX3_patch_21 (by decide) (fun c_21 => ?_) (fun c_21 => ?_)
    · refine lv_iload_n hx hb dX3_patch_28 rfl (lv_at hl 1 rfl) ?_
      refine lv_if_lt (tgt := 46) hx hb dX3_patch_29 (by decide) (fun c_29 => ?_) (fun c_29 => ?_)
      · refine lv_iconst (v := 3) hx hb dX3_patch_46 (by decide) ?_
        refine lv_goto (tgt := 51) hx hb dX3_patch_47 (by decide) ?_
        exact kX3_patch_51 hx hb hr hml hown hts hlocks hA hZ hK  th bm km qm bd ym p0 p1 p2 3 hW (by first | exact fun h => absurd h (by decide) | exact fun _ => pa_of hW (by assumption) c_21 c_29 c_43) (plX3_patch_0 st lo th bm km qm bd ym p0 p1 p2 c_5 _ hw_2 c_21 c_29) _ _ (hP.sub (ws' := [(om, .inr (3, [.int th, .int st, .int lo, .ref ob, .int bm.2.1, .int bm.2.2.1, .int bm.2.2.2.1, .int bm.2.2.2.2, .ref ok, .int km.2, .int qm.1, .int qm.2.1, .int qm.2.2.1, .int qm.2.2.2, .int bd, .int ym.1, .int ym.2.1, .int ym.2.2.1, .int ym.2.2.2])), (ob, .inl (cZ, 5200, .inl bm.1)), (ok, .inl (cK, 600, .inl km.1))]) [0, 1, 2] rfl) (hD.sub (ws' := [(om, .inr (3, [.int th, .int st, .int lo, .ref ob, .int bm.2.1, .int bm.2.2.1, .int bm.2.2.2.1, .int bm.2.2.2.2, .ref ok, .int km.2, .int qm.1, .int qm.2.1, .int qm.2.2.1, .int qm.2.2.2, .int bd, .int ym.1, .int ym.2.1, .int ym.2.2.1, .int ym.2.2.2])), (ob, .inl (cZ, 5200, .inl bm.1)), (ok, .inl (cK, 600, .inl km.1))]) [0, 1, 2] (by decide) rfl) hS ls (lv_sub hl [0, 1, 2, 3] rfl)
      · refine lv_iload_n hx hb dX3_patch_32 rfl (lv_at hl 1 rfl) ?_
        refine lv_i2l (v := p0.toInt64) hx hb dX3_patch_33 rfl ?_
        refine lv_iload_n hx hb dX3_patch_34 rfl (lv_at hl 2 rfl) ?_
        refine lv_i2l (v := p1.toInt64) hx hb dX3_patch_35 rfl ?_
        refine lv_ladd hx hb dX3_patch_36 ?_
        refine lv_aload_n hx hb dX3_patch_37 rfl (lv_at hl 0 rfl) ?_
        refine va_get (D := (dC, dI)) (ci := 3) (v := .int bm.2.1) (C := RX3) (T := TX3) (N := 19) hx hb hts inGX3 hown hK hP 0 rfl rfl 4 (by decide) (hts _ wd441) (fun _ h9 => h9) rfl dX3_patch_38 ?_
        refine lv_i2l (v := bm.2.1.toInt64) hx hb dX3_patch_41 rfl ?_
        refine W.lcmp hx hb dX3_patch_42 ?_
        refine lv_if_le (tgt := 50) hx hb dX3_patch_43 (by decide) (fun c_43 => ?_) (fun c_43 => ?_)
        · refine lv_iconst (v := 0) hx hb dX3_patch_50 (by decide) ?_
          exact kX3_patch_51 hx hb hr hml hown hts hlocks hA hZ hK  th bm km qm bd ym p0 p1 p2 0 hW (by first | exact fun h => absurd h (by decide) | exact fun _ => pa_of hW (by assumption) c_21 c_29 c_43) (plX3_patch_1 st lo th bm km qm bd ym p0 p1 p2 c_5 _ hw_2 c_21 c_29 c_43) _ _ (hP.sub (ws' := [(om, .inr (3, [.int th, .int st, .int lo, .ref ob, .int bm.2.1, .int bm.2.2.1, .int bm.2.2.2.1, .int bm.2.2.2.2, .ref ok, .int km.2, .int qm.1, .int qm.2.1, .int qm.2.2.1, .int qm.2.2.2, .int bd, .int ym.1, .int ym.2.1, .int ym.2.2.1, .int ym.2.2.2])), (ob, .inl (cZ, 5200, .inl bm.1)), (ok, .inl (cK, 600, .inl km.1))]) [0, 1, 2] rfl) (hD.sub (ws' := [(om, .inr (3, [.int th, .int st, .int lo, .ref ob, .int bm.2.1, .int bm.2.2.1, .int bm.2.2.2.1, .int bm.2.2.2.2, .ref ok, .int km.2, .int qm.1, .int qm.2.1, .int qm.2.2.1, .int qm.2.2.2, .int bd, .int ym.1, .int ym.2.1, .int ym.2.2.1, .int ym.2.2.2])), (ob, .inl (cZ, 5200, .inl bm.1)), (ok, .inl (cK, 600, .inl km.1))]) [0, 1, 2] (by decide) rfl) hS ls (lv_sub hl [0, 1, 2, 3] rfl)
        · refine lv_iconst (v := 3) hx hb dX3_patch_46 (by decide) ?_
          refine lv_goto (tgt := 51) hx hb dX3_patch_47 (by decide) ?_
          exact kX3_patch_51 hx hb hr hml hown hts hlocks hA hZ hK  th bm km qm bd ym p0 p1 p2 3 hW (by first | exact fun h => absurd h (by decide) | exact fun _ => pa_of hW (by assumption) c_21 c_29 c_43) (plX3_patch_2 st lo th bm km qm bd ym p0 p1 p2 c_5 _ hw_2 c_21 c_29 c_43) _ _ (hP.sub (ws' := [(om, .inr (3, [.int th, .int st, .int lo, .ref ob, .int bm.2.1, .int bm.2.2.1, .int bm.2.2.2.1, .int bm.2.2.2.2, .ref ok, .int km.2, .int qm.1, .int qm.2.1, .int qm.2.2.1, .int qm.2.2.2, .int bd, .int ym.1, .int ym.2.1, .int ym.2.2.1, .int ym.2.2.2])), (ob, .inl (cZ, 5200, .inl bm.1)), (ok, .inl (cK, 600, .inl km.1))]) [0, 1, 2] rfl) (hD.sub (ws' := [(om, .inr (3, [.int th, .int st, .int lo, .ref ob, .int bm.2.1, .int bm.2.2.1, .int bm.2.2.2.1, .int bm.2.2.2.2, .ref ok, .int km.2, .int qm.1, .int qm.2.1, .int qm.2.2.1, .int qm.2.2.2, .int bd, .int ym.1, .int ym.2.1, .int ym.2.2.1, .int ym.2.2.2])), (ob, .inl (cZ, 5200, .inl bm.1)), (ok, .inl (cK, 600, .inl km.1))]) [0, 1, 2] (by decide) rfl) hS ls (lv_sub hl [0, 1, 2, 3] rfl)
    · refine lv_iconst (v := 2) hx hb dX3_patch_24 (by decide) ?_
      refine lv_goto (tgt := 51) hx hb dX3_patch_25 (by decide) ?_
      exact kX3_patch_51 hx hb hr hml hown hts hlocks hA hZ hK  th bm km qm bd ym p0 p1 p2 2 hW (by first | exact fun h => absurd h (by decide) | exact fun _ => pa_of hW (by assumption) c_21 c_29 c_43) (plX3_patch_3 st lo th bm km qm bd ym p0 p1 p2 c_5 _ hw_2 c_21) _ _ (hP.sub (ws' := [(om, .inr (3, [.int th, .int st, .int lo, .ref ob, .int bm.2.1, .int bm.2.2.1, .int bm.2.2.2.1, .int bm.2.2.2.2, .ref ok, .int km.2, .int qm.1, .int qm.2.1, .int qm.2.2.1, .int qm.2.2.2, .int bd, .int ym.1, .int ym.2.1, .int ym.2.2.1, .int ym.2.2.2])), (ob, .inl (cZ, 5200, .inl bm.1)), (ok, .inl (cK, 600, .inl km.1))]) [0, 1, 2] rfl) (hD.sub (ws' := [(om, .inr (3, [.int th, .int st, .int lo, .ref ob, .int bm.2.1, .int bm.2.2.1, .int bm.2.2.2.1, .int bm.2.2.2.2, .ref ok, .int km.2, .int qm.1, .int qm.2.1, .int qm.2.2.1, .int qm.2.2.2, .int bd, .int ym.1, .int ym.2.1, .int ym.2.2.1, .int ym.2.2.2])), (ob, .inl (cZ, 5200, .inl bm.1)), (ok, .inl (cK, 600, .inl km.1))]) [0, 1, 2] (by decide) rfl) hS ls (lv_sub hl [0, 1, 2, 3] rfl)
  · refine lv_iconst (v := 1) hx hb dX3_patch_8 (by decide) ?_
    refine lv_goto (tgt := 51) hx hb dX3_patch_9 (by decide) ?_
    exact kX3_patch_51 hx hb hr hml hown hts hlocks hA hZ hK  th bm km qm bd ym p0 p1 p2 1 hW (by first | exact fun h => absurd h (by decide) | exact fun _ => pa_of hW (by assumption) c_21 c_29 c_43) (plX3_patch_4 st lo th bm km qm bd ym p0 p1 p2 c_5) _ _ (hP.sub (ws' := [(om, .inr (3, [.int th, .int st, .int lo, .ref ob, .int bm.2.1, .int bm.2.2.1, .int bm.2.2.2.1, .int bm.2.2.2.2, .ref ok, .int km.2, .int qm.1, .int qm.2.1, .int qm.2.2.1, .int qm.2.2.2, .int bd, .int ym.1, .int ym.2.1, .int ym.2.2.1, .int ym.2.2.2])), (ob, .inl (cZ, 5200, .inl bm.1)), (ok, .inl (cK, 600, .inl km.1))]) [0, 1, 2] rfl) (hD.sub (ws' := [(om, .inr (3, [.int th, .int st, .int lo, .ref ob, .int bm.2.1, .int bm.2.2.1, .int bm.2.2.2.1, .int bm.2.2.2.2, .ref ok, .int km.2, .int qm.1, .int qm.2.1, .int qm.2.2.1, .int qm.2.2.2, .int bd, .int ym.1, .int ym.2.1, .int ym.2.2.1, .int ym.2.2.2])), (ob, .inl (cZ, 5200, .inl bm.1)), (ok, .inl (cK, 600, .inl km.1))]) [0, 1, 2] (by decide) rfl) hS ls (lv_sub hl [0, 1, 2, 3] rfl)
def LX3_byteAt_22 (st : Int32) (lo : Int32) (th : Int32) (bm : Bm) (km : Rw) (qm : Tk) (bd : Int32) (ym : Tk) (p0 : Int32) (v : Int32) : Int32 × Int32 :=
  if v ≤ 0 then
    let r_1 := FX3_byteOf st lo v bm km qm bd ym p0
    (r_1, v)
  else
    (0, v)
def FX3_byteAt (st : Int32) (lo : Int32) (th : Int32) (bm : Bm) (km : Rw) (qm : Tk) (bd : Int32) (ym : Tk) (p0 : Int32) : Int32 × Int32 :=
  let r_1 := FX3_bytesWritten st lo th bm km qm bd ym
  let r_3 := FX3_isIn p0.toInt64 0 ((r_1 - 1).toInt64)
  if r_3 = 0 then
    LX3_byteAt_22 st lo th bm km qm bd ym p0 1
  else
    LX3_byteAt_22 st lo th bm km qm bd ym p0 0
set_option maxRecDepth 100000 in
theorem plX3_byteAt_l22_0 (st : Int32) (lo : Int32) (th : Int32) (bm : Bm) (km : Rw) (qm : Tk) (bd : Int32) (ym : Tk) (p0 : Int32) (v : Int32) (c_29 : v ≤ 0) (r_1 : Int32) (hw_2 : r_1 = FX3_byteOf st lo v bm km qm bd ym p0) : (r_1, v) = LX3_byteAt_22 st lo th bm km qm bd ym p0 v := by
  subst hw_2
  exact (if_pos c_29).symm
set_option maxRecDepth 100000 in
theorem plX3_byteAt_l22_1 (st : Int32) (lo : Int32) (th : Int32) (bm : Bm) (km : Rw) (qm : Tk) (bd : Int32) (ym : Tk) (p0 : Int32) (v : Int32) (c_29 : ¬ (v ≤ 0)) : (0, v) = LX3_byteAt_22 st lo th bm km qm bd ym p0 v := by
  exact (if_neg c_29).symm
set_option maxRecDepth 100000 in
theorem plX3_byteAt_0 (st : Int32) (lo : Int32) (th : Int32) (bm : Bm) (km : Rw) (qm : Tk) (bd : Int32) (ym : Tk) (p0 : Int32) (r_1 : Int32) (hw_2 : r_1 = FX3_bytesWritten st lo th bm km qm bd ym) (r_3 : Int32) (hw_4 : r_3 = FX3_isIn p0.toInt64 0 ((r_1 - 1).toInt64)) (c_14 : r_3 = 0) : LX3_byteAt_22 st lo th bm km qm bd ym p0 1 = FX3_byteAt st lo th bm km qm bd ym p0 := by
  subst hw_2
  subst hw_4
  exact (if_pos c_14).symm
set_option maxRecDepth 100000 in
theorem plX3_byteAt_1 (st : Int32) (lo : Int32) (th : Int32) (bm : Bm) (km : Rw) (qm : Tk) (bd : Int32) (ym : Tk) (p0 : Int32) (r_1 : Int32) (hw_2 : r_1 = FX3_bytesWritten st lo th bm km qm bd ym) (r_3 : Int32) (hw_4 : r_3 = FX3_isIn p0.toInt64 0 ((r_1 - 1).toInt64)) (c_14 : ¬ (r_3 = 0)) : LX3_byteAt_22 st lo th bm km qm bd ym p0 0 = FX3_byteAt st lo th bm km qm bd ym p0 := by
  subst hw_2
  subst hw_4
  exact (if_neg c_14).symm
set_option maxHeartbeats 4000000 in
set_option maxRecDepth 100000 in
theorem kX3_byteAt_22 {p : Program} {l : Launch} {e : Env} {s : State} {m : MethodId} {args : Array Value} {below : List Frame} {meth : Method} {c : Code} {dC : Nat → ClassId} {dI : Nat → Nat → Nat} {cZ cK : ClassId} {om ob ok : Nat} {st : Int32} {lo : Int32} {z : Int32 × Int32} {A : Nat → Prop} (hx : p.tables.exec = Jvm.exec) (hb : c.code = cX3_byteAt) (hr : meth.sig.returnType = (some .int)) (hml : c.maxLocals = 2) (hown : s.vm.findClass RX3 = some m.cls) (hts : ∀ w ∈ G, w.before args s = true) (hlocks : meth.locks = false) (hA : ∀ q : Nat, s.heap.size ≤ q → A q) (hZ : zOk s) (hK : va_K (dC, dI) vwCl [(cZ, .boolean), (cK, .int)] s) : ∀ (th : Int32) (bm : Bm) (km : Rw) (qm : Tk) (bd : Int32) (ym : Tk) (p0 : Int32) (v : Int32), (v ≤ 0 → bOk bm.2.1 p0) → LX3_byteAt_22 st lo th bm km qm bd ym p0 v = z → ∀ (H : Heap) (locs : List Loc), va_P (dC, dI) vwCl [(om, .inr (3, [.int th, .int st, .int lo, .ref ob, .int bm.2.1, .int bm.2.2.1, .int bm.2.2.2.1, .int bm.2.2.2.2, .ref ok, .int km.2, .int qm.1, .int qm.2.1, .int qm.2.2.1, .int qm.2.2.2, .int bd, .int ym.1, .int ym.2.1, .int ym.2.2.1, .int ym.2.2.2])), (ob, .inl (cZ, 5200, .inl bm.1)), (ok, .inl (cK, 600, .inl km.1))] H → va_D A [(om, .inr (3, [.int th, .int st, .int lo, .ref ob, .int bm.2.1, .int bm.2.2.1, .int bm.2.2.2.1, .int bm.2.2.2.2, .ref ok, .int km.2, .int qm.1, .int qm.2.1, .int qm.2.2.1, .int qm.2.2.2, .int bd, .int ym.1, .int ym.2.1, .int ym.2.2.1, .int ym.2.2.2])), (ob, .inl (cZ, 5200, .inl bm.1)), (ok, .inl (cK, 600, .inl km.1))] → va_S A s.heap H locs → ∀ (ls : Array Slot), lv_has ls 2 [(0, .ref om), (1, .int p0)] → W p l e (headSpec (Cond.code yX3_byteAt cX3_byteAt 2 (some .int) :: G) ({ frames := 1, cells := 0, slots := 0, locals := 25 } : Room)).room s m args below meth c H locs 0 0 (MQ below (va_Qi (fun (r : Int32) (u : Int32) => (r, u) = z) (fun (u : Int32) (t : State) => va_P (dC, dI) vwCl [(om, .inr (3, [.int u, .int st, .int lo, .ref ob, .int bm.2.1, .int bm.2.2.1, .int bm.2.2.2.1, .int bm.2.2.2.2, .ref ok, .int km.2, .int qm.1, .int qm.2.1, .int qm.2.2.1, .int qm.2.2.2, .int bd, .int ym.1, .int ym.2.1, .int ym.2.2.1, .int ym.2.2.2])), (ob, .inl (cZ, 5200, .inl bm.1)), (ok, .inl (cK, 600, .inl km.1))] t.heap ∧ va_D A [(om, .inr (3, [.int u, .int st, .int lo, .ref ob, .int bm.2.1, .int bm.2.2.1, .int bm.2.2.2.1, .int bm.2.2.2.2, .ref ok, .int km.2, .int qm.1, .int qm.2.1, .int qm.2.2.1, .int qm.2.2.2, .int bd, .int ym.1, .int ym.2.1, .int ym.2.2.1, .int ym.2.2.2])), (ob, .inl (cZ, 5200, .inl bm.1)), (ok, .inl (cK, 600, .inl km.1))]) A) args s 0 0 A) (F0 m 22 ls [.int v, .ref om]) := by
  intro th bm km qm bd ym p0 v hv hz H locs hP hD hS ls hl
  refine va_put (D := (dC, dI)) (ci := 3) (v := .int v) (ty := .int) (C := RX3) (T := TX3) (N := 19) hx hb hts inGX3 tyX3 tyX3_ok nmX3 hown hK hP hD hS 0 rfl rfl 0 (by decide) (hts _ wd437) (fun _ h9 => h9) rfl (by decide +kernel) rfl rfl (Nat.le_of_ble_eq_true rfl) dX3_byteAt_22 (fun H locs hP hD hS => ?_)
  have hP : va_P (dC, dI) vwCl [(om, .inr (3, [.int v, .int st, .int lo, .ref ob, .int bm.2.1, .int bm.2.2.1, .int bm.2.2.2.1, .int bm.2.2.2.2, .ref ok, .int km.2, .int qm.1, .int qm.2.1, .int qm.2.2.1, .int qm.2.2.2, .int bd, .int ym.1, .int ym.2.1, .int ym.2.2.1, .int ym.2.2.2])), (ob, .inl (cZ, 5200, .inl bm.1)), (ok, .inl (cK, 600, .inl km.1))] H := hP
  have hD : va_D A [(om, .inr (3, [.int v, .int st, .int lo, .ref ob, .int bm.2.1, .int bm.2.2.1, .int bm.2.2.2.1, .int bm.2.2.2.2, .ref ok, .int km.2, .int qm.1, .int qm.2.1, .int qm.2.2.1, .int qm.2.2.2, .int bd, .int ym.1, .int ym.2.1, .int ym.2.2.1, .int ym.2.2.2])), (ob, .inl (cZ, 5200, .inl bm.1)), (ok, .inl (cK, 600, .inl km.1))] := hD
  refine lv_aload_n hx hb dX3_byteAt_25 rfl (lv_at hl 0 rfl) ?_
  refine va_get (D := (dC, dI)) (ci := 3) (v := .int v) (C := RX3) (T := TX3) (N := 19) hx hb hts inGX3 hown hK hP 0 rfl rfl 0 (by decide) (hts _ wd437) (fun _ h9 => h9) rfl dX3_byteAt_26 ?_
  refine lv_if_le (tgt := 36) hx hb dX3_byteAt_29 (by decide) (fun c_29 => ?_) (fun c_29 => ?_)
  · refine lv_aload_n hx hb dX3_byteAt_36 rfl (lv_at hl 0 rfl) ?_
    refine lv_iload_n hx hb dX3_byteAt_37 rfl (lv_at hl 1 rfl) ?_
    have hPc := hP.sub (ws' := [(om, .inr (3, [.int v, .int st, .int lo, .ref ob, .int bm.2.1, .int bm.2.2.1, .int bm.2.2.2.1, .int bm.2.2.2.2, .ref ok, .int km.2, .int qm.1, .int qm.2.1, .int qm.2.2.1, .int qm.2.2.2, .int bd, .int ym.1, .int ym.2.1, .int ym.2.2.1, .int ym.2.2.2])), (ob, .inl (cZ, 5200, .inl bm.1)), (ok, .inl (cK, 600, .inl km.1))]) [0, 1, 2] rfl
    have hKc := hK.sub (tys' := [(cZ, .boolean), (cK, .int)]) [0, 1] rfl
    refine vp_callSi (va_Run.run (va_runV (As := [.int p0]) (rest := []) ⟨hx, hb, hml, hown, hts⟩ (mX3_byteOf l dC dI cZ cK om ob ok st lo v bm km qm bd ym p0 (hv c_29)) (cwV 1 hts (gV wd520 wd521 wd15 wd30 wd522) rfl rfl rfl (by decide +kernel) ⟨Nat.le_of_ble_eq_true rfl, Nat.le_of_ble_eq_true rfl⟩) ⟨fb_ro, va_recv hKc hPc (ci := 3) (q0 := 0) rfl rfl, pre_ro hPc hKc hZ⟩ rfl rfl hl.1 rfl (lv_room (Nat.le_of_ble_eq_true rfl)) dX3_byteAt_38 ⟨Nat.le_of_ble_eq_true rfl, Nat.le_of_ble_eq_true rfl⟩)) (fun r_1 hw_2 => ?_)
    have hP9 := hP.sub (ws' := [(om, .inr (3, [.int v, .int st, .int lo, .ref ob, .int bm.2.1, .int bm.2.2.1, .int bm.2.2.2.1, .int bm.2.2.2.2, .ref ok, .int km.2, .int qm.1, .int qm.2.1, .int qm.2.2.1, .int qm.2.2.2, .int bd, .int ym.1, .int ym.2.1, .int ym.2.2.1, .int ym.2.2.2])), (ob, .inl (cZ, 5200, .inl bm.1)), (ok, .inl (cK, 600, .inl km.1))]) [0, 1, 2] rfl
    have hD9 := hD.sub (ws' := [(om, .inr (3, [.int v, .int st, .int lo, .ref ob, .int bm.2.1, .int bm.2.2.1, .int bm.2.2.2.1, .int bm.2.2.2.2, .ref ok, .int km.2, .int qm.1, .int qm.2.1, .int qm.2.2.1, .int qm.2.2.2, .int bd, .int ym.1, .int ym.2.1, .int ym.2.2.1, .int ym.2.2.2])), (ob, .inl (cZ, 5200, .inl bm.1)), (ok, .inl (cK, 600, .inl km.1))]) [0, 1, 2] (by decide) rfl
    exact W.iret (v := r_1) hx hb hr (fun t ht hW => ⟨⟨r_1, v, rfl, ((plX3_byteAt_l22_0 st lo th bm km qm bd ym p0 v c_29 _ hw_2).trans hz), by rw [ht]; exact hP9, hD9⟩, hS.F ht⟩) hS.2.2 dX3_byteAt_41
  · refine lv_iconst (v := 0) hx hb dX3_byteAt_32 (by decide) ?_
    refine lv_goto (tgt := 41) hx hb dX3_byteAt_33 (by decide) ?_
    have hP9 := hP.sub (ws' := [(om, .inr (3, [.int v, .int st, .int lo, .ref ob, .int bm.2.1, .int bm.2.2.1, .int bm.2.2.2.1, .int bm.2.2.2.2, .ref ok, .int km.2, .int qm.1, .int qm.2.1, .int qm.2.2.1, .int qm.2.2.2, .int bd, .int ym.1, .int ym.2.1, .int ym.2.2.1, .int ym.2.2.2])), (ob, .inl (cZ, 5200, .inl bm.1)), (ok, .inl (cK, 600, .inl km.1))]) [0, 1, 2] rfl
    have hD9 := hD.sub (ws' := [(om, .inr (3, [.int v, .int st, .int lo, .ref ob, .int bm.2.1, .int bm.2.2.1, .int bm.2.2.2.1, .int bm.2.2.2.2, .ref ok, .int km.2, .int qm.1, .int qm.2.1, .int qm.2.2.1, .int qm.2.2.2, .int bd, .int ym.1, .int ym.2.1, .int ym.2.2.1, .int ym.2.2.2])), (ob, .inl (cZ, 5200, .inl bm.1)), (ok, .inl (cK, 600, .inl km.1))]) [0, 1, 2] (by decide) rfl
    exact W.iret (v := 0) hx hb hr (fun t ht hW => ⟨⟨0, v, rfl, ((plX3_byteAt_l22_1 st lo th bm km qm bd ym p0 v c_29).trans hz), by rw [ht]; exact hP9, hD9⟩, hS.F ht⟩) hS.2.2 dX3_byteAt_41
set_option maxHeartbeats 4000000 in
set_option maxRecDepth 100000 in
theorem mX3_byteAt (l : Launch) (dC : Nat → ClassId) (dI : Nat → Nat → Nat) (cZ cK : ClassId) (om ob ok : Nat) (sz : Nat) (st : Int32) (lo : Int32) (th : Int32) (bm : Bm) (km : Rw) (qm : Tk) (bd : Int32) (ym : Tk) (p0 : Int32) (hW : wok bm 400) : Met l yX3_byteAt (Cond.code yX3_byteAt cX3_byteAt 2 (some .int) :: G) ({ frames := 1, cells := 0, slots := 0, locals := 25 } : Room) (va_Pc [.ref om, .int p0] (fun U => U.heap.size = sz ∧ va_P (dC, dI) vwCl [(om, .inr (3, [.int th, .int st, .int lo, .ref ob, .int bm.2.1, .int bm.2.2.1, .int bm.2.2.2.1, .int bm.2.2.2.2, .ref ok, .int km.2, .int qm.1, .int qm.2.1, .int qm.2.2.1, .int qm.2.2.2, .int bd, .int ym.1, .int ym.2.1, .int ym.2.2.1, .int ym.2.2.2])), (ob, .inl (cZ, 5200, .inl bm.1)), (ok, .inl (cK, 600, .inl km.1))] U.heap ∧ va_K (dC, dI) vwCl [(cZ, .boolean), (cK, .int)] U ∧ va_D (fun _ => True) [(om, .inr (3, [.int th, .int st, .int lo, .ref ob, .int bm.2.1, .int bm.2.2.1, .int bm.2.2.2.1, .int bm.2.2.2.2, .ref ok, .int km.2, .int qm.1, .int qm.2.1, .int qm.2.2.1, .int qm.2.2.2, .int bd, .int ym.1, .int ym.2.1, .int ym.2.2.1, .int ym.2.2.2])), (ob, .inl (cZ, 5200, .inl bm.1)), (ok, .inl (cK, 600, .inl km.1))] ∧ zOk U)) (va_Qi (fun (r : Int32) (u : Int32) => (r, u) = (FX3_byteAt st lo th bm km qm bd ym p0)) (fun (u : Int32) (t : State) => va_P (dC, dI) vwCl [(om, .inr (3, [.int u, .int st, .int lo, .ref ob, .int bm.2.1, .int bm.2.2.1, .int bm.2.2.2.1, .int bm.2.2.2.2, .ref ok, .int km.2, .int qm.1, .int qm.2.1, .int qm.2.2.1, .int qm.2.2.2, .int bd, .int ym.1, .int ym.2.1, .int ym.2.2.1, .int ym.2.2.2])), (ob, .inl (cZ, 5200, .inl bm.1)), (ok, .inl (cK, 600, .inl km.1))] t.heap ∧ va_D (va_A [(om, .inr (3, [.int th, .int st, .int lo, .ref ob, .int bm.2.1, .int bm.2.2.1, .int bm.2.2.2.1, .int bm.2.2.2.2, .ref ok, .int km.2, .int qm.1, .int qm.2.1, .int qm.2.2.1, .int qm.2.2.2, .int bd, .int ym.1, .int ym.2.1, .int ym.2.2.1, .int ym.2.2.2])), (ob, .inl (cZ, 5200, .inl bm.1)), (ok, .inl (cK, 600, .inl km.1))] sz) [(om, .inr (3, [.int u, .int st, .int lo, .ref ob, .int bm.2.1, .int bm.2.2.1, .int bm.2.2.2.1, .int bm.2.2.2.2, .ref ok, .int km.2, .int qm.1, .int qm.2.1, .int qm.2.2.1, .int qm.2.2.2, .int bd, .int ym.1, .int ym.2.1, .int ym.2.2.1, .int ym.2.2.2])), (ob, .inl (cZ, 5200, .inl bm.1)), (ok, .inl (cK, 600, .inl km.1))]) (va_A [(om, .inr (3, [.int th, .int st, .int lo, .ref ob, .int bm.2.1, .int bm.2.2.1, .int bm.2.2.2.1, .int bm.2.2.2.2, .ref ok, .int km.2, .int qm.1, .int qm.2.1, .int qm.2.2.1, .int qm.2.2.2, .int bd, .int ym.1, .int ym.2.1, .int ym.2.2.1, .int ym.2.2.2])), (ob, .inl (cZ, 5200, .inl bm.1)), (ok, .inl (cK, 600, .inl km.1))] sz)) 0 0 (va_A [(om, .inr (3, [.int th, .int st, .int lo, .ref ob, .int bm.2.1, .int bm.2.2.1, .int bm.2.2.2.1, .int bm.2.2.2.2, .ref ok, .int km.2, .int qm.1, .int qm.2.1, .int qm.2.2.1, .int qm.2.2.2, .int bd, .int ym.1, .int ym.2.1, .int ym.2.2.1, .int ym.2.2.2])), (ob, .inl (cZ, 5200, .inl bm.1)), (ok, .inl (cK, 600, .inl km.1))] sz) := by
  refine Met.ofW (cc := cX3_byteAt) (maxL := 2) (ret := (some .int)) (by decide) rfl ?_
  intro p e s m args below meth c s₁ B hml hv
  obtain ⟨rfl, hsz, hP, hK, hD0, hZ⟩ := hv
  have hx := B.exec
  have hb := B.bytes
  have hr := B.returns
  have hts : ∀ w ∈ G, w.before [.ref om, .int p0].toArray s = true := fun w h => atoms_spec (ws := (Cond.code yX3_byteAt cX3_byteAt 2 (some .int) :: G)) B.pre w (List.mem_cons_of_mem _ h)
  have hown : s.vm.findClass RX3 = some m.cls := findClass_of_methodNamed B.named
  have hlocks := B.notSynchronized
  subst hsz
  have hD := hD0.self (sz := s.heap.size)
  generalize hAe : va_A [(om, .inr (3, [.int th, .int st, .int lo, .ref ob, .int bm.2.1, .int bm.2.2.1, .int bm.2.2.2.1, .int bm.2.2.2.2, .ref ok, .int km.2, .int qm.1, .int qm.2.1, .int qm.2.2.1, .int qm.2.2.2, .int bd, .int ym.1, .int ym.2.1, .int ym.2.2.1, .int ym.2.2.2])), (ob, .inl (cZ, 5200, .inl bm.1)), (ok, .inl (cK, 600, .inl km.1))] s.heap.size = A at hD ⊢
  have hA : ∀ q : Nat, s.heap.size ≤ q → A q := fun q h => by rw [← hAe]; exact Or.inr h
  have hS : va_S A s.heap s.heap [] := va_S.rf
  have hP : va_P (dC, dI) vwCl [(om, .inr (3, [.int th, .int st, .int lo, .ref ob, .int bm.2.1, .int bm.2.2.1, .int bm.2.2.2.1, .int bm.2.2.2.2, .ref ok, .int km.2, .int qm.1, .int qm.2.1, .int qm.2.2.1, .int qm.2.2.2, .int bd, .int ym.1, .int ym.2.1, .int ym.2.2.1, .int ym.2.2.2])), (ob, .inl (cZ, 5200, .inl bm.1)), (ok, .inl (cK, 600, .inl km.1))] s.heap := hP
  have hl := lv_entry ([.ref om, .int p0]) (n := 2) (Nat.le_of_ble_eq_true rfl)
  rw [lg_entry_eq]
  generalize (lg_sl ([.ref om, .int p0]) ++ List.replicate (2 - (lg_sl ([.ref om, .int p0])).length) Slot.unset).toArray = ls at hl ⊢
  have hl : lv_has ls 2 [(0, .ref om), (1, .int p0)] := hl
  refine lv_aload_n hx hb dX3_byteAt_0 rfl (lv_at hl 0 rfl) ?_
  refine lv_iload_n hx hb dX3_byteAt_1 rfl (lv_at hl 1 rfl) ?_
  refine lv_i2l (v := p0.toInt64) hx hb dX3_byteAt_2 rfl ?_
  refine lv_lconst (v := 0) hx hb dX3_byteAt_3 (by decide) ?_
  refine lv_aload_n hx hb dX3_byteAt_4 rfl (lv_at hl 0 rfl) ?_
  have hPc := hP.sub (ws' := [(om, .inr (3, [.int th, .int st, .int lo, .ref ob, .int bm.2.1, .int bm.2.2.1, .int bm.2.2.2.1, .int bm.2.2.2.2, .ref ok, .int km.2, .int qm.1, .int qm.2.1, .int qm.2.2.1, .int qm.2.2.2, .int bd, .int ym.1, .int ym.2.1, .int ym.2.2.1, .int ym.2.2.2])), (ob, .inl (cZ, 5200, .inl bm.1)), (ok, .inl (cK, 600, .inl km.1))]) [0, 1, 2] rfl
  have hKc := hK.sub (tys' := [(cZ, .boolean), (cK, .int)]) [0, 1] rfl
  refine vp_callSi (va_Run.run (va_runV (As := []) (rest := [.long 0, .long p0.toInt64, .ref om]) ⟨hx, hb, hml, hown, hts⟩ (mX3_bytesWritten l dC dI cZ cK om ob ok st lo th bm km qm bd ym) (cwV 0 hts (gV wd544 wd545 wd17 wd30 wd546) rfl rfl rfl (by decide +kernel) ⟨Nat.le_of_ble_eq_true rfl, Nat.le_of_ble_eq_true rfl⟩) ⟨fb_ro, va_recv hKc hPc (ci := 3) (q0 := 0) rfl rfl, pre_ro hPc hKc hZ⟩ rfl rfl hl.1 rfl (lv_room (Nat.le_of_ble_eq_true rfl)) dX3_byteAt_5 ⟨Nat.le_of_ble_eq_true rfl, Nat.le_of_ble_eq_true rfl⟩)) (fun r_1 hw_2 => ?_)
  refine lv_iconst (v := 1) hx hb dX3_byteAt_8 (by decide) ?_
  refine lv_isub hx hb dX3_byteAt_9 ?_
  refine lv_i2l (v := (r_1 - 1).toInt64) hx hb dX3_byteAt_10 rfl ?_
  refine vp_callSi (va_Run.run (va_runS (As := [.long p0.toInt64, .long 0, .long ((r_1 - 1).toInt64)]) (rest := [.ref om]) ⟨hx, hb, hml, hown, hts⟩ (mX3_isIn l dC dI p0.toInt64 0 ((r_1 - 1).toInt64)) (va_cwS 3 hts (gS wd505 wd506 wd30 wd507) rfl rfl rfl (by decide +kernel) ⟨Nat.le_of_ble_eq_true rfl, Nat.le_of_ble_eq_true rfl⟩) ⟨fb_nw, pre_nw hZ⟩ rfl rfl hl.1 rfl (lv_room (Nat.le_of_ble_eq_true rfl)) dX3_byteAt_11 ⟨Nat.le_of_ble_eq_true rfl, Nat.le_of_ble_eq_true rfl⟩)) (fun r_3 hw_4 => ?_)
  refine lv_if_eq (tgt := 21) hx hb dX3_byteAt_14 (by decide) (fun c_14 => ?_) (fun c_14 => ?_)
  · refine lv_iconst (v := 1) hx hb dX3_byteAt_21 (by decide) ?_
    exact kX3_byteAt_22 hx hb hr hml hown hts hlocks hA hZ hK  th bm km qm bd ym p0 1 (by first | exact fun h => absurd h (by decide) | exact fun _ => by_of hW (by assumption) (by assumption) c_14) (plX3_byteAt_0 st lo th bm km qm bd ym p0 _ hw_2 _ hw_4 c_14) _ _ (hP.sub (ws' := [(om, .inr (3, [.int th, .int st, .int lo, .ref ob, .int bm.2.1, .int bm.2.2.1, .int bm.2.2.2.1, .int bm.2.2.2.2, .ref ok, .int km.2, .int qm.1, .int qm.2.1, .int qm.2.2.1, .int qm.2.2.2, .int bd, .int ym.1, .int ym.2.1, .int ym.2.2.1, .int ym.2.2.2])), (ob, .inl (cZ, 5200, .inl bm.1)), (ok, .inl (cK, 600, .inl km.1))]) [0, 1, 2] rfl) (hD.sub (ws' := [(om, .inr (3, [.int th, .int st, .int lo, .ref ob, .int bm.2.1, .int bm.2.2.1, .int bm.2.2.2.1, .int bm.2.2.2.2, .ref ok, .int km.2, .int qm.1, .int qm.2.1, .int qm.2.2.1, .int qm.2.2.2, .int bd, .int ym.1, .int ym.2.1, .int ym.2.2.1, .int ym.2.2.2])), (ob, .inl (cZ, 5200, .inl bm.1)), (ok, .inl (cK, 600, .inl km.1))]) [0, 1, 2] (by decide) rfl) hS ls (lv_sub hl [0, 1] rfl)
  · refine lv_iconst (v := 0) hx hb dX3_byteAt_17 (by decide) ?_
    refine lv_goto (tgt := 22) hx hb dX3_byteAt_18 (by decide) ?_
    exact kX3_byteAt_22 hx hb hr hml hown hts hlocks hA hZ hK  th bm km qm bd ym p0 0 (by first | exact fun h => absurd h (by decide) | exact fun _ => by_of hW (by assumption) (by assumption) c_14) (plX3_byteAt_1 st lo th bm km qm bd ym p0 _ hw_2 _ hw_4 c_14) _ _ (hP.sub (ws' := [(om, .inr (3, [.int th, .int st, .int lo, .ref ob, .int bm.2.1, .int bm.2.2.1, .int bm.2.2.2.1, .int bm.2.2.2.2, .ref ok, .int km.2, .int qm.1, .int qm.2.1, .int qm.2.2.1, .int qm.2.2.2, .int bd, .int ym.1, .int ym.2.1, .int ym.2.2.1, .int ym.2.2.2])), (ob, .inl (cZ, 5200, .inl bm.1)), (ok, .inl (cK, 600, .inl km.1))]) [0, 1, 2] rfl) (hD.sub (ws' := [(om, .inr (3, [.int th, .int st, .int lo, .ref ob, .int bm.2.1, .int bm.2.2.1, .int bm.2.2.2.1, .int bm.2.2.2.2, .ref ok, .int km.2, .int qm.1, .int qm.2.1, .int qm.2.2.1, .int qm.2.2.2, .int bd, .int ym.1, .int ym.2.1, .int ym.2.2.1, .int ym.2.2.2])), (ob, .inl (cZ, 5200, .inl bm.1)), (ok, .inl (cK, 600, .inl km.1))]) [0, 1, 2] (by decide) rfl) hS ls (lv_sub hl [0, 1] rfl)
def LX3_feed_32 (st : Int32) (lo : Int32) (th : Int32) (bm : Bm) (km : Rw) (qm : Tk) (bd : Int32) (ym : Tk) (p0 : Int32) (v : Int32) : Int32 × Int32 × Rw :=
  if v ≤ 0 then
    let f_1 := km.2 + 1
    (f_1, v, (upd km.1 km.2.toNatClampNeg p0, f_1))
  else
    (0, v, km)
def FX3_feed (st : Int32) (lo : Int32) (th : Int32) (bm : Bm) (km : Rw) (qm : Tk) (bd : Int32) (ym : Tk) (p0 : Int32) : Int32 × Int32 × Rw :=
  let r_1 := FX3_isIn p0.toInt64 0 255
  if r_1 = 0 then
    LX3_feed_32 st lo th bm km qm bd ym p0 1
  else
    if km.2 = 600 then
      LX3_feed_32 st lo th bm km qm bd ym p0 2
    else
      LX3_feed_32 st lo th bm km qm bd ym p0 0
set_option maxRecDepth 100000 in
theorem plX3_feed_l32_0 (st : Int32) (lo : Int32) (th : Int32) (bm : Bm) (km : Rw) (qm : Tk) (bd : Int32) (ym : Tk) (p0 : Int32) (v : Int32) (c_39 : v ≤ 0) (f_1 : Int32) (ef_1 : f_1 = km.2 + 1) : (f_1, v, (upd km.1 km.2.toNatClampNeg p0, f_1)) = LX3_feed_32 st lo th bm km qm bd ym p0 v := by
  subst ef_1
  exact (if_pos c_39).symm
set_option maxRecDepth 100000 in
theorem plX3_feed_l32_1 (st : Int32) (lo : Int32) (th : Int32) (bm : Bm) (km : Rw) (qm : Tk) (bd : Int32) (ym : Tk) (p0 : Int32) (v : Int32) (c_39 : ¬ (v ≤ 0)) : (0, v, km) = LX3_feed_32 st lo th bm km qm bd ym p0 v := by
  exact (if_neg c_39).symm
set_option maxRecDepth 100000 in
theorem plX3_feed_0 (st : Int32) (lo : Int32) (th : Int32) (bm : Bm) (km : Rw) (qm : Tk) (bd : Int32) (ym : Tk) (p0 : Int32) (r_1 : Int32) (hw_2 : r_1 = FX3_isIn p0.toInt64 0 255) (c_10 : ¬ (r_1 = 0)) (c_24 : ¬ (km.2 = 600)) : LX3_feed_32 st lo th bm km qm bd ym p0 0 = FX3_feed st lo th bm km qm bd ym p0 := by
  subst hw_2
  exact ((if_neg c_10).trans (if_neg c_24)).symm
set_option maxRecDepth 100000 in
theorem plX3_feed_1 (st : Int32) (lo : Int32) (th : Int32) (bm : Bm) (km : Rw) (qm : Tk) (bd : Int32) (ym : Tk) (p0 : Int32) (r_1 : Int32) (hw_2 : r_1 = FX3_isIn p0.toInt64 0 255) (c_10 : ¬ (r_1 = 0)) (c_24 : km.2 = 600) : LX3_feed_32 st lo th bm km qm bd ym p0 2 = FX3_feed st lo th bm km qm bd ym p0 := by
  subst hw_2
  exact ((if_neg c_10).trans (if_pos c_24)).symm
set_option maxRecDepth 100000 in
theorem plX3_feed_2 (st : Int32) (lo : Int32) (th : Int32) (bm : Bm) (km : Rw) (qm : Tk) (bd : Int32) (ym : Tk) (p0 : Int32) (r_1 : Int32) (hw_2 : r_1 = FX3_isIn p0.toInt64 0 255) (c_10 : r_1 = 0) : LX3_feed_32 st lo th bm km qm bd ym p0 1 = FX3_feed st lo th bm km qm bd ym p0 := by
  subst hw_2
  exact (if_pos c_10).symm
set_option maxHeartbeats 4000000 in
set_option maxRecDepth 100000 in
theorem kX3_feed_32 {p : Program} {l : Launch} {e : Env} {s : State} {m : MethodId} {args : Array Value} {below : List Frame} {meth : Method} {c : Code} {dC : Nat → ClassId} {dI : Nat → Nat → Nat} {cZ cK : ClassId} {om ob ok : Nat} {st : Int32} {lo : Int32} {z : Int32 × Int32 × Rw} {A : Nat → Prop} (hx : p.tables.exec = Jvm.exec) (hb : c.code = cX3_feed) (hr : meth.sig.returnType = (some .int)) (hml : c.maxLocals = 2) (hown : s.vm.findClass RX3 = some m.cls) (hts : ∀ w ∈ G, w.before args s = true) (hlocks : meth.locks = false) (hA : ∀ q : Nat, s.heap.size ≤ q → A q) (hZ : zOk s) (hK : va_K (dC, dI) vwCl [(cZ, .boolean), (cK, .int)] s) : ∀ (th : Int32) (bm : Bm) (km : Rw) (qm : Tk) (bd : Int32) (ym : Tk) (p0 : Int32) (v : Int32), (cOk km) → (v ≤ 0 → ¬ km.2 = 600) → LX3_feed_32 st lo th bm km qm bd ym p0 v = z → ∀ (H : Heap) (locs : List Loc), va_P (dC, dI) vwCl [(om, .inr (3, [.int th, .int st, .int lo, .ref ob, .int bm.2.1, .int bm.2.2.1, .int bm.2.2.2.1, .int bm.2.2.2.2, .ref ok, .int km.2, .int qm.1, .int qm.2.1, .int qm.2.2.1, .int qm.2.2.2, .int bd, .int ym.1, .int ym.2.1, .int ym.2.2.1, .int ym.2.2.2])), (ob, .inl (cZ, 5200, .inl bm.1)), (ok, .inl (cK, 600, .inl km.1))] H → va_D A [(om, .inr (3, [.int th, .int st, .int lo, .ref ob, .int bm.2.1, .int bm.2.2.1, .int bm.2.2.2.1, .int bm.2.2.2.2, .ref ok, .int km.2, .int qm.1, .int qm.2.1, .int qm.2.2.1, .int qm.2.2.2, .int bd, .int ym.1, .int ym.2.1, .int ym.2.2.1, .int ym.2.2.2])), (ob, .inl (cZ, 5200, .inl bm.1)), (ok, .inl (cK, 600, .inl km.1))] → va_S A s.heap H locs → ∀ (ls : Array Slot), lv_has ls 2 [(0, .ref om), (1, .int p0)] → W p l e (headSpec (Cond.code yX3_feed cX3_feed 2 (some .int) :: G) ({ frames := 1, cells := 0, slots := 0, locals := 25 } : Room)).room s m args below meth c H locs 0 0 (MQ below (va_Qi (fun (r : Int32) (u : Int32 × Rw) => (r, u) = z) (fun (u : Int32 × Rw) (t : State) => va_P (dC, dI) vwCl [(om, .inr (3, [.int u.1, .int st, .int lo, .ref ob, .int bm.2.1, .int bm.2.2.1, .int bm.2.2.2.1, .int bm.2.2.2.2, .ref ok, .int u.2.2, .int qm.1, .int qm.2.1, .int qm.2.2.1, .int qm.2.2.2, .int bd, .int ym.1, .int ym.2.1, .int ym.2.2.1, .int ym.2.2.2])), (ob, .inl (cZ, 5200, .inl bm.1)), (ok, .inl (cK, 600, .inl u.2.1))] t.heap ∧ va_D A [(om, .inr (3, [.int u.1, .int st, .int lo, .ref ob, .int bm.2.1, .int bm.2.2.1, .int bm.2.2.2.1, .int bm.2.2.2.2, .ref ok, .int u.2.2, .int qm.1, .int qm.2.1, .int qm.2.2.1, .int qm.2.2.2, .int bd, .int ym.1, .int ym.2.1, .int ym.2.2.1, .int ym.2.2.2])), (ob, .inl (cZ, 5200, .inl bm.1)), (ok, .inl (cK, 600, .inl u.2.1))]) A) args s 0 0 A) (F0 m 32 ls [.int v, .ref om]) := by
  intro th bm km qm bd ym p0 v hC hv hz H locs hP hD hS ls hl
  refine va_put (D := (dC, dI)) (ci := 3) (v := .int v) (ty := .int) (C := RX3) (T := TX3) (N := 19) hx hb hts inGX3 tyX3 tyX3_ok nmX3 hown hK hP hD hS 0 rfl rfl 0 (by decide) (hts _ wd437) (fun _ h9 => h9) rfl (by decide +kernel) rfl rfl (Nat.le_of_ble_eq_true rfl) dX3_feed_32 (fun H locs hP hD hS => ?_)
  have hP : va_P (dC, dI) vwCl [(om, .inr (3, [.int v, .int st, .int lo, .ref ob, .int bm.2.1, .int bm.2.2.1, .int bm.2.2.2.1, .int bm.2.2.2.2, .ref ok, .int km.2, .int qm.1, .int qm.2.1, .int qm.2.2.1, .int qm.2.2.2, .int bd, .int ym.1, .int ym.2.1, .int ym.2.2.1, .int ym.2.2.2])), (ob, .inl (cZ, 5200, .inl bm.1)), (ok, .inl (cK, 600, .inl km.1))] H := hP
  have hD : va_D A [(om, .inr (3, [.int v, .int st, .int lo, .ref ob, .int bm.2.1, .int bm.2.2.1, .int bm.2.2.2.1, .int bm.2.2.2.2, .ref ok, .int km.2, .int qm.1, .int qm.2.1, .int qm.2.2.1, .int qm.2.2.2, .int bd, .int ym.1, .int ym.2.1, .int ym.2.2.1, .int ym.2.2.2])), (ob, .inl (cZ, 5200, .inl bm.1)), (ok, .inl (cK, 600, .inl km.1))] := hD
  refine lv_aload_n hx hb dX3_feed_35 rfl (lv_at hl 0 rfl) ?_
  refine va_get (D := (dC, dI)) (ci := 3) (v := .int v) (C := RX3) (T := TX3) (N := 19) hx hb hts inGX3 hown hK hP 0 rfl rfl 0 (by decide) (hts _ wd437) (fun _ h9 => h9) rfl dX3_feed_36 ?_
  refine lv_if_le (tgt := 44) hx hb dX3_feed_39 (by decide) (fun c_39 => ?_) (fun c_39 => ?_)
  · refine lv_aload_n hx hb dX3_feed_44 rfl (lv_at hl 0 rfl) ?_
    refine va_get (D := (dC, dI)) (ci := 3) (v := .ref ok) (C := RX3) (T := TX3) (N := 19) hx hb hts inGX3 hown hK hP 0 rfl rfl 8 (by decide) (hts _ wd445) (fun _ h9 => h9) rfl dX3_feed_45 ?_
    refine lv_aload_n hx hb dX3_feed_48 rfl (lv_at hl 0 rfl) ?_
    refine va_get (D := (dC, dI)) (ci := 3) (v := .int km.2) (C := RX3) (T := TX3) (N := 19) hx hb hts inGX3 hown hK hP 0 rfl rfl 9 (by decide) (hts _ wd446) (fun _ h9 => h9) rfl dX3_feed_49 ?_
    refine lv_iload_n hx hb dX3_feed_52 rfl (lv_at hl 1 rfl) ?_
    refine va_iast hx hb hK hP hD hS 2 1 rfl rfl (fd_in hC (hv c_39)) dX3_feed_53 (fun H locs hP hD hS => ?_)
    have hP : va_P (dC, dI) vwCl [(om, .inr (3, [.int v, .int st, .int lo, .ref ob, .int bm.2.1, .int bm.2.2.1, .int bm.2.2.2.1, .int bm.2.2.2.2, .ref ok, .int km.2, .int qm.1, .int qm.2.1, .int qm.2.2.1, .int qm.2.2.2, .int bd, .int ym.1, .int ym.2.1, .int ym.2.2.1, .int ym.2.2.2])), (ob, .inl (cZ, 5200, .inl bm.1)), (ok, .inl (cK, 600, .inl (upd km.1 km.2.toNatClampNeg p0)))] H := hP
    have hD : va_D A [(om, .inr (3, [.int v, .int st, .int lo, .ref ob, .int bm.2.1, .int bm.2.2.1, .int bm.2.2.2.1, .int bm.2.2.2.2, .ref ok, .int km.2, .int qm.1, .int qm.2.1, .int qm.2.2.1, .int qm.2.2.2, .int bd, .int ym.1, .int ym.2.1, .int ym.2.2.1, .int ym.2.2.2])), (ob, .inl (cZ, 5200, .inl bm.1)), (ok, .inl (cK, 600, .inl (upd km.1 km.2.toNatClampNeg p0)))] := hD
    refine lv_aload_n hx hb dX3_feed_54 rfl (lv_at hl 0 rfl) ?_
    refine lv_dup hx hb dX3_feed_55 rfl ?_
    refine va_get (D := (dC, dI)) (ci := 3) (v := .int km.2) (C := RX3) (T := TX3) (N := 19) hx hb hts inGX3 hown hK hP 0 rfl rfl 9 (by decide) (hts _ wd446) (fun _ h9 => h9) rfl dX3_feed_56 ?_
    refine lv_iconst (v := 1) hx hb dX3_feed_59 (by decide) ?_
    refine lv_iadd hx hb dX3_feed_60 ?_
    refine lv_topi (fun f_1 ef_1 => ?_)
    refine va_put (D := (dC, dI)) (ci := 3) (v := .int f_1) (ty := .int) (C := RX3) (T := TX3) (N := 19) hx hb hts inGX3 tyX3 tyX3_ok nmX3 hown hK hP hD hS 0 rfl rfl 9 (by decide) (hts _ wd446) (fun _ h9 => h9) rfl (by decide +kernel) rfl rfl (Nat.le_of_ble_eq_true rfl) dX3_feed_61 (fun H locs hP hD hS => ?_)
    have hP : va_P (dC, dI) vwCl [(om, .inr (3, [.int v, .int st, .int lo, .ref ob, .int bm.2.1, .int bm.2.2.1, .int bm.2.2.2.1, .int bm.2.2.2.2, .ref ok, .int f_1, .int qm.1, .int qm.2.1, .int qm.2.2.1, .int qm.2.2.2, .int bd, .int ym.1, .int ym.2.1, .int ym.2.2.1, .int ym.2.2.2])), (ob, .inl (cZ, 5200, .inl bm.1)), (ok, .inl (cK, 600, .inl (upd km.1 km.2.toNatClampNeg p0)))] H := hP
    have hD : va_D A [(om, .inr (3, [.int v, .int st, .int lo, .ref ob, .int bm.2.1, .int bm.2.2.1, .int bm.2.2.2.1, .int bm.2.2.2.2, .ref ok, .int f_1, .int qm.1, .int qm.2.1, .int qm.2.2.1, .int qm.2.2.2, .int bd, .int ym.1, .int ym.2.1, .int ym.2.2.1, .int ym.2.2.2])), (ob, .inl (cZ, 5200, .inl bm.1)), (ok, .inl (cK, 600, .inl (upd km.1 km.2.toNatClampNeg p0)))] := hD
    refine lv_aload_n hx hb dX3_feed_64 rfl (lv_at hl 0 rfl) ?_
    refine va_get (D := (dC, dI)) (ci := 3) (v := .int f_1) (C := RX3) (T := TX3) (N := 19) hx hb hts inGX3 hown hK hP 0 rfl rfl 9 (by decide) (hts _ wd446) (fun _ h9 => h9) rfl dX3_feed_65 ?_
    have hP9 := hP.sub (ws' := [(om, .inr (3, [.int v, .int st, .int lo, .ref ob, .int bm.2.1, .int bm.2.2.1, .int bm.2.2.2.1, .int bm.2.2.2.2, .ref ok, .int f_1, .int qm.1, .int qm.2.1, .int qm.2.2.1, .int qm.2.2.2, .int bd, .int ym.1, .int ym.2.1, .int ym.2.2.1, .int ym.2.2.2])), (ob, .inl (cZ, 5200, .inl bm.1)), (ok, .inl (cK, 600, .inl (upd km.1 km.2.toNatClampNeg p0)))]) [0, 1, 2] rfl
    have hD9 := hD.sub (ws' := [(om, .inr (3, [.int v, .int st, .int lo, .ref ob, .int bm.2.1, .int bm.2.2.1, .int bm.2.2.2.1, .int bm.2.2.2.2, .ref ok, .int f_1, .int qm.1, .int qm.2.1, .int qm.2.2.1, .int qm.2.2.2, .int bd, .int ym.1, .int ym.2.1, .int ym.2.2.1, .int ym.2.2.2])), (ob, .inl (cZ, 5200, .inl bm.1)), (ok, .inl (cK, 600, .inl (upd km.1 km.2.toNatClampNeg p0)))]) [0, 1, 2] (by decide) rfl
    exact W.iret (v := f_1) hx hb hr (fun t ht hW => ⟨⟨f_1, (v, (upd km.1 km.2.toNatClampNeg p0, f_1)), rfl, ((plX3_feed_l32_0 st lo th bm km qm bd ym p0 v c_39 _ ef_1).trans hz), by rw [ht]; exact hP9, hD9⟩, hS.F ht⟩) hS.2.2 dX3_feed_68
  · refine lv_iconst (v := 0) hx hb dX3_feed_42 (by decide) ?_
    have hP9 := hP.sub (ws' := [(om, .inr (3, [.int v, .int st, .int lo, .ref ob, .int bm.2.1, .int bm.2.2.1, .int bm.2.2.2.1, .int bm.2.2.2.2, .ref ok, .int km.2, .int qm.1, .int qm.2.1, .int qm.2.2.1, .int qm.2.2.2, .int bd, .int ym.1, .int ym.2.1, .int ym.2.2.1, .int ym.2.2.2])), (ob, .inl (cZ, 5200, .inl bm.1)), (ok, .inl (cK, 600, .inl km.1))]) [0, 1, 2] rfl
    have hD9 := hD.sub (ws' := [(om, .inr (3, [.int v, .int st, .int lo, .ref ob, .int bm.2.1, .int bm.2.2.1, .int bm.2.2.2.1, .int bm.2.2.2.2, .ref ok, .int km.2, .int qm.1, .int qm.2.1, .int qm.2.2.1, .int qm.2.2.2, .int bd, .int ym.1, .int ym.2.1, .int ym.2.2.1, .int ym.2.2.2])), (ob, .inl (cZ, 5200, .inl bm.1)), (ok, .inl (cK, 600, .inl km.1))]) [0, 1, 2] (by decide) rfl
    exact W.iret (v := 0) hx hb hr (fun t ht hW => ⟨⟨0, (v, km), rfl, ((plX3_feed_l32_1 st lo th bm km qm bd ym p0 v c_39).trans hz), by rw [ht]; exact hP9, hD9⟩, hS.F ht⟩) hS.2.2 dX3_feed_43
set_option maxHeartbeats 4000000 in
set_option maxRecDepth 100000 in
theorem mX3_feed (l : Launch) (dC : Nat → ClassId) (dI : Nat → Nat → Nat) (cZ cK : ClassId) (om ob ok : Nat) (sz : Nat) (st : Int32) (lo : Int32) (th : Int32) (bm : Bm) (km : Rw) (qm : Tk) (bd : Int32) (ym : Tk) (p0 : Int32) (hC : cOk km) : Met l yX3_feed (Cond.code yX3_feed cX3_feed 2 (some .int) :: G) ({ frames := 1, cells := 0, slots := 0, locals := 25 } : Room) (va_Pc [.ref om, .int p0] (fun U => U.heap.size = sz ∧ va_P (dC, dI) vwCl [(om, .inr (3, [.int th, .int st, .int lo, .ref ob, .int bm.2.1, .int bm.2.2.1, .int bm.2.2.2.1, .int bm.2.2.2.2, .ref ok, .int km.2, .int qm.1, .int qm.2.1, .int qm.2.2.1, .int qm.2.2.2, .int bd, .int ym.1, .int ym.2.1, .int ym.2.2.1, .int ym.2.2.2])), (ob, .inl (cZ, 5200, .inl bm.1)), (ok, .inl (cK, 600, .inl km.1))] U.heap ∧ va_K (dC, dI) vwCl [(cZ, .boolean), (cK, .int)] U ∧ va_D (fun _ => True) [(om, .inr (3, [.int th, .int st, .int lo, .ref ob, .int bm.2.1, .int bm.2.2.1, .int bm.2.2.2.1, .int bm.2.2.2.2, .ref ok, .int km.2, .int qm.1, .int qm.2.1, .int qm.2.2.1, .int qm.2.2.2, .int bd, .int ym.1, .int ym.2.1, .int ym.2.2.1, .int ym.2.2.2])), (ob, .inl (cZ, 5200, .inl bm.1)), (ok, .inl (cK, 600, .inl km.1))] ∧ zOk U)) (va_Qi (fun (r : Int32) (u : Int32 × Rw) => (r, u) = (FX3_feed st lo th bm km qm bd ym p0)) (fun (u : Int32 × Rw) (t : State) => va_P (dC, dI) vwCl [(om, .inr (3, [.int u.1, .int st, .int lo, .ref ob, .int bm.2.1, .int bm.2.2.1, .int bm.2.2.2.1, .int bm.2.2.2.2, .ref ok, .int u.2.2, .int qm.1, .int qm.2.1, .int qm.2.2.1, .int qm.2.2.2, .int bd, .int ym.1, .int ym.2.1, .int ym.2.2.1, .int ym.2.2.2])), (ob, .inl (cZ, 5200, .inl bm.1)), (ok, .inl (cK, 600, .inl u.2.1))] t.heap ∧ va_D (va_A [(om, .inr (3, [.int th, .int st, .int lo, .ref ob, .int bm.2.1, .int bm.2.2.1, .int bm.2.2.2.1, .int bm.2.2.2.2, .ref ok, .int km.2, .int qm.1, .int qm.2.1, .int qm.2.2.1, .int qm.2.2.2, .int bd, .int ym.1, .int ym.2.1, .int ym.2.2.1, .int ym.2.2.2])), (ob, .inl (cZ, 5200, .inl bm.1)), (ok, .inl (cK, 600, .inl km.1))] sz) [(om, .inr (3, [.int u.1, .int st, .int lo, .ref ob, .int bm.2.1, .int bm.2.2.1, .int bm.2.2.2.1, .int bm.2.2.2.2, .ref ok, .int u.2.2, .int qm.1, .int qm.2.1, .int qm.2.2.1, .int qm.2.2.2, .int bd, .int ym.1, .int ym.2.1, .int ym.2.2.1, .int ym.2.2.2])), (ob, .inl (cZ, 5200, .inl bm.1)), (ok, .inl (cK, 600, .inl u.2.1))]) (va_A [(om, .inr (3, [.int th, .int st, .int lo, .ref ob, .int bm.2.1, .int bm.2.2.1, .int bm.2.2.2.1, .int bm.2.2.2.2, .ref ok, .int km.2, .int qm.1, .int qm.2.1, .int qm.2.2.1, .int qm.2.2.2, .int bd, .int ym.1, .int ym.2.1, .int ym.2.2.1, .int ym.2.2.2])), (ob, .inl (cZ, 5200, .inl bm.1)), (ok, .inl (cK, 600, .inl km.1))] sz)) 0 0 (va_A [(om, .inr (3, [.int th, .int st, .int lo, .ref ob, .int bm.2.1, .int bm.2.2.1, .int bm.2.2.2.1, .int bm.2.2.2.2, .ref ok, .int km.2, .int qm.1, .int qm.2.1, .int qm.2.2.1, .int qm.2.2.2, .int bd, .int ym.1, .int ym.2.1, .int ym.2.2.1, .int ym.2.2.2])), (ob, .inl (cZ, 5200, .inl bm.1)), (ok, .inl (cK, 600, .inl km.1))] sz) := by
  refine Met.ofW (cc := cX3_feed) (maxL := 2) (ret := (some .int)) (by decide) rfl ?_
  intro p e s m args below meth c s₁ B hml hv
  obtain ⟨rfl, hsz, hP, hK, hD0, hZ⟩ := hv
  have hx := B.exec
  have hb := B.bytes
  have hr := B.returns
  have hts : ∀ w ∈ G, w.before [.ref om, .int p0].toArray s = true := fun w h => atoms_spec (ws := (Cond.code yX3_feed cX3_feed 2 (some .int) :: G)) B.pre w (List.mem_cons_of_mem _ h)
  have hown : s.vm.findClass RX3 = some m.cls := findClass_of_methodNamed B.named
  have hlocks := B.notSynchronized
  subst hsz
  have hD := hD0.self (sz := s.heap.size)
  generalize hAe : va_A [(om, .inr (3, [.int th, .int st, .int lo, .ref ob, .int bm.2.1, .int bm.2.2.1, .int bm.2.2.2.1, .int bm.2.2.2.2, .ref ok, .int km.2, .int qm.1, .int qm.2.1, .int qm.2.2.1, .int qm.2.2.2, .int bd, .int ym.1, .int ym.2.1, .int ym.2.2.1, .int ym.2.2.2])), (ob, .inl (cZ, 5200, .inl bm.1)), (ok, .inl (cK, 600, .inl km.1))] s.heap.size = A at hD ⊢
  have hA : ∀ q : Nat, s.heap.size ≤ q → A q := fun q h => by rw [← hAe]; exact Or.inr h
  have hS : va_S A s.heap s.heap [] := va_S.rf
  have hP : va_P (dC, dI) vwCl [(om, .inr (3, [.int th, .int st, .int lo, .ref ob, .int bm.2.1, .int bm.2.2.1, .int bm.2.2.2.1, .int bm.2.2.2.2, .ref ok, .int km.2, .int qm.1, .int qm.2.1, .int qm.2.2.1, .int qm.2.2.2, .int bd, .int ym.1, .int ym.2.1, .int ym.2.2.1, .int ym.2.2.2])), (ob, .inl (cZ, 5200, .inl bm.1)), (ok, .inl (cK, 600, .inl km.1))] s.heap := hP
  have hl := lv_entry ([.ref om, .int p0]) (n := 2) (Nat.le_of_ble_eq_true rfl)
  rw [lg_entry_eq]
  generalize (lg_sl ([.ref om, .int p0]) ++ List.replicate (2 - (lg_sl ([.ref om, .int p0])).length) Slot.unset).toArray = ls at hl ⊢
  have hl : lv_has ls 2 [(0, .ref om), (1, .int p0)] := hl
  refine lv_aload_n hx hb dX3_feed_0 rfl (lv_at hl 0 rfl) ?_
  refine lv_iload_n hx hb dX3_feed_1 rfl (lv_at hl 1 rfl) ?_
  refine lv_i2l (v := p0.toInt64) hx hb dX3_feed_2 rfl ?_
  refine lv_lconst (v := 0) hx hb dX3_feed_3 (by decide) ?_
  refine lv_ldc2 (v := 255) hx hb hown (hts _ wd535) dX3_feed_4 ?_
  refine vp_callSi (va_Run.run (va_runS (As := [.long p0.toInt64, .long 0, .long 255]) (rest := [.ref om]) ⟨hx, hb, hml, hown, hts⟩ (mX3_isIn l dC dI p0.toInt64 0 255) (va_cwS 3 hts (gS wd505 wd506 wd30 wd507) rfl rfl rfl (by decide +kernel) ⟨Nat.le_of_ble_eq_true rfl, Nat.le_of_ble_eq_true rfl⟩) ⟨fb_nw, pre_nw hZ⟩ rfl rfl hl.1 rfl (lv_room (Nat.le_of_ble_eq_true rfl)) dX3_feed_7 ⟨Nat.le_of_ble_eq_true rfl, Nat.le_of_ble_eq_true rfl⟩)) (fun r_1 hw_2 => ?_)
  refine lv_if_ne (tgt := 17) hx hb dX3_feed_10 (by decide) (fun c_10 => ?_) (fun c_10 => ?_)
  · refine lv_aload_n hx hb dX3_feed_17 rfl (lv_at hl 0 rfl) ?_
    refine va_get (D := (dC, dI)) (ci := 3) (v := .int km.2) (C := RX3) (T := TX3) (N := 19) hx hb hts inGX3 hown hK hP 0 rfl rfl 9 (by decide) (hts _ wd446) (fun _ h9 => h9) rfl dX3_feed_18 ?_
    refine lv_sipush (v := 600) hx hb dX3_feed_21 (by decide) ?_
    refine lv_icmp_ne (tgt := 31) hx hb dX3_feed_24 (by decide) (fun c_24 => ?_) (fun c_24 => ?_)
    · refine lv_iconst (v := 0) hx hb dX3_feed_31 (by decide) ?_
      exact kX3_feed_32 hx hb hr hml hown hts hlocks hA hZ hK  th bm km qm bd ym p0 0 hC (by first | exact fun h => absurd h (by decide) | exact fun _ => c_24) (plX3_feed_0 st lo th bm km qm bd ym p0 _ hw_2 c_10 c_24) _ _ (hP.sub (ws' := [(om, .inr (3, [.int th, .int st, .int lo, .ref ob, .int bm.2.1, .int bm.2.2.1, .int bm.2.2.2.1, .int bm.2.2.2.2, .ref ok, .int km.2, .int qm.1, .int qm.2.1, .int qm.2.2.1, .int qm.2.2.2, .int bd, .int ym.1, .int ym.2.1, .int ym.2.2.1, .int ym.2.2.2])), (ob, .inl (cZ, 5200, .inl bm.1)), (ok, .inl (cK, 600, .inl km.1))]) [0, 1, 2] rfl) (hD.sub (ws' := [(om, .inr (3, [.int th, .int st, .int lo, .ref ob, .int bm.2.1, .int bm.2.2.1, .int bm.2.2.2.1, .int bm.2.2.2.2, .ref ok, .int km.2, .int qm.1, .int qm.2.1, .int qm.2.2.1, .int qm.2.2.2, .int bd, .int ym.1, .int ym.2.1, .int ym.2.2.1, .int ym.2.2.2])), (ob, .inl (cZ, 5200, .inl bm.1)), (ok, .inl (cK, 600, .inl km.1))]) [0, 1, 2] (by decide) rfl) hS ls (lv_sub hl [0, 1] rfl)
    · refine lv_iconst (v := 2) hx hb dX3_feed_27 (by decide) ?_
      refine lv_goto (tgt := 32) hx hb dX3_feed_28 (by decide) ?_
      exact kX3_feed_32 hx hb hr hml hown hts hlocks hA hZ hK  th bm km qm bd ym p0 2 hC (by first | exact fun h => absurd h (by decide) | exact fun _ => c_24) (plX3_feed_1 st lo th bm km qm bd ym p0 _ hw_2 c_10 c_24) _ _ (hP.sub (ws' := [(om, .inr (3, [.int th, .int st, .int lo, .ref ob, .int bm.2.1, .int bm.2.2.1, .int bm.2.2.2.1, .int bm.2.2.2.2, .ref ok, .int km.2, .int qm.1, .int qm.2.1, .int qm.2.2.1, .int qm.2.2.2, .int bd, .int ym.1, .int ym.2.1, .int ym.2.2.1, .int ym.2.2.2])), (ob, .inl (cZ, 5200, .inl bm.1)), (ok, .inl (cK, 600, .inl km.1))]) [0, 1, 2] rfl) (hD.sub (ws' := [(om, .inr (3, [.int th, .int st, .int lo, .ref ob, .int bm.2.1, .int bm.2.2.1, .int bm.2.2.2.1, .int bm.2.2.2.2, .ref ok, .int km.2, .int qm.1, .int qm.2.1, .int qm.2.2.1, .int qm.2.2.2, .int bd, .int ym.1, .int ym.2.1, .int ym.2.2.1, .int ym.2.2.2])), (ob, .inl (cZ, 5200, .inl bm.1)), (ok, .inl (cK, 600, .inl km.1))]) [0, 1, 2] (by decide) rfl) hS ls (lv_sub hl [0, 1] rfl)
  · refine lv_iconst (v := 1) hx hb dX3_feed_13 (by decide) ?_
    refine lv_goto (tgt := 32) hx hb dX3_feed_14 (by decide) ?_
    exact kX3_feed_32 hx hb hr hml hown hts hlocks hA hZ hK  th bm km qm bd ym p0 1 hC (by first | exact fun h => absurd h (by decide) | exact fun _ => c_24) (plX3_feed_2 st lo th bm km qm bd ym p0 _ hw_2 c_10) _ _ (hP.sub (ws' := [(om, .inr (3, [.int th, .int st, .int lo, .ref ob, .int bm.2.1, .int bm.2.2.1, .int bm.2.2.2.1, .int bm.2.2.2.2, .ref ok, .int km.2, .int qm.1, .int qm.2.1, .int qm.2.2.1, .int qm.2.2.2, .int bd, .int ym.1, .int ym.2.1, .int ym.2.2.1, .int ym.2.2.2])), (ob, .inl (cZ, 5200, .inl bm.1)), (ok, .inl (cK, 600, .inl km.1))]) [0, 1, 2] rfl) (hD.sub (ws' := [(om, .inr (3, [.int th, .int st, .int lo, .ref ob, .int bm.2.1, .int bm.2.2.1, .int bm.2.2.2.1, .int bm.2.2.2.2, .ref ok, .int km.2, .int qm.1, .int qm.2.1, .int qm.2.2.1, .int qm.2.2.2, .int bd, .int ym.1, .int ym.2.1, .int ym.2.2.1, .int ym.2.2.2])), (ob, .inl (cZ, 5200, .inl bm.1)), (ok, .inl (cK, 600, .inl km.1))]) [0, 1, 2] (by decide) rfl) hS ls (lv_sub hl [0, 1] rfl)
def LX3_pass_83 (st : Int32) (lo : Int32) : Nat → Int32 → Bm → Rw → Tk → Int32 → Tk → Int32 → Int32 → Int32 → Int32 → Int32 → Int32 × Int32 × Rw
  | 0, th, bm, km, qm, bd, ym, p0, p1, wh, mn, i => (0, th, km)
  | n + 1, th, bm, km, qm, bd, ym, p0, p1, wh, mn, i =>
    if mn ≤ i then
      (mn, th, km)
    else
      let r_1 := FX3_byteOf st lo th bm km qm bd ym (p0 + i)
      let f_3 := km.2 + 1
      let i_4 := i + 1
      LX3_pass_83 st lo n th bm (upd km.1 km.2.toNatClampNeg r_1, f_3) qm bd ym p0 p1 wh mn i_4
def LX3_pass_68 (st : Int32) (lo : Int32) (th : Int32) (bm : Bm) (km : Rw) (qm : Tk) (bd : Int32) (ym : Tk) (p0 : Int32) (p1 : Int32) (wh : Int32) (mn : Int32) (v : Int32) : Int32 × Int32 × Rw :=
  if v ≤ 0 then
    LX3_pass_83 st lo (fz 0 mn) v bm km qm bd ym p0 p1 wh mn 0
  else
    (0, v, km)
def FX3_pass (st : Int32) (lo : Int32) (th : Int32) (bm : Bm) (km : Rw) (qm : Tk) (bd : Int32) (ym : Tk) (p0 : Int32) (p1 : Int32) : Int32 × Int32 × Rw :=
  let x_1 := bm.2.1 / 8
  if (x_1 - p0) ≤ p1 then
    let x_2 := x_1 - p0
    let r_3 := FX3_isIn p0.toInt64 0 ((x_1 - 1).toInt64)
    if r_3 = 0 then
      LX3_pass_68 st lo th bm km qm bd ym p0 p1 x_1 x_2 1
    else
      if 0 ≤ p1 then
        if (km.2 + x_2) ≤ 600 then
          LX3_pass_68 st lo th bm km qm bd ym p0 p1 x_1 x_2 0
        else
          LX3_pass_68 st lo th bm km qm bd ym p0 p1 x_1 x_2 3
      else
        LX3_pass_68 st lo th bm km qm bd ym p0 p1 x_1 x_2 2
  else
    let r_5 := FX3_isIn p0.toInt64 0 ((x_1 - 1).toInt64)
    if r_5 = 0 then
      LX3_pass_68 st lo th bm km qm bd ym p0 p1 x_1 p1 1
    else
      if 0 ≤ p1 then
        if (km.2 + p1) ≤ 600 then
          LX3_pass_68 st lo th bm km qm bd ym p0 p1 x_1 p1 0
        else
          LX3_pass_68 st lo th bm km qm bd ym p0 p1 x_1 p1 3
      else
        LX3_pass_68 st lo th bm km qm bd ym p0 p1 x_1 p1 2
set_option maxRecDepth 100000 in
theorem plX3_pass_l83_0 (st : Int32) (lo : Int32) (n : Nat) (th : Int32) (bm : Bm) (km : Rw) (qm : Tk) (bd : Int32) (ym : Tk) (p0 : Int32) (p1 : Int32) (wh : Int32) (mn : Int32) (i : Int32) (c_87 : mn ≤ i) : (mn, th, km) = LX3_pass_83 st lo (n + 1) th bm km qm bd ym p0 p1 wh mn i := by
  exact (if_pos c_87).symm
set_option maxRecDepth 100000 in
theorem plX3_pass_l83_1 (st : Int32) (lo : Int32) (n : Nat) (th : Int32) (bm : Bm) (km : Rw) (qm : Tk) (bd : Int32) (ym : Tk) (p0 : Int32) (p1 : Int32) (wh : Int32) (mn : Int32) (i : Int32) (c_87 : ¬ (mn ≤ i)) (r_1 : Int32) (hw_2 : r_1 = FX3_byteOf st lo th bm km qm bd ym (p0 + i)) (f_3 : Int32) (ef_3 : f_3 = km.2 + 1) (i_4 : Int32) (ei_4 : i_4 = i + 1) : LX3_pass_83 st lo n th bm (upd km.1 km.2.toNatClampNeg r_1, f_3) qm bd ym p0 p1 wh mn i_4 = LX3_pass_83 st lo (n + 1) th bm km qm bd ym p0 p1 wh mn i := by
  subst hw_2
  subst ef_3
  subst ei_4
  exact (if_neg c_87).symm
set_option maxRecDepth 100000 in
theorem plX3_pass_l68_0 (st : Int32) (lo : Int32) (th : Int32) (bm : Bm) (km : Rw) (qm : Tk) (bd : Int32) (ym : Tk) (p0 : Int32) (p1 : Int32) (wh : Int32) (mn : Int32) (v : Int32) (c_75 : v ≤ 0) : LX3_pass_83 st lo (fz 0 mn) v bm km qm bd ym p0 p1 wh mn 0 = LX3_pass_68 st lo th bm km qm bd ym p0 p1 wh mn v := by
  exact (if_pos c_75).symm
set_option maxRecDepth 100000 in
theorem plX3_pass_l68_1 (st : Int32) (lo : Int32) (th : Int32) (bm : Bm) (km : Rw) (qm : Tk) (bd : Int32) (ym : Tk) (p0 : Int32) (p1 : Int32) (wh : Int32) (mn : Int32) (v : Int32) (c_75 : ¬ (v ≤ 0)) : (0, v, km) = LX3_pass_68 st lo th bm km qm bd ym p0 p1 wh mn v := by
  exact (if_neg c_75).symm
set_option maxRecDepth 100000 in
theorem plX3_pass_0 (st : Int32) (lo : Int32) (th : Int32) (bm : Bm) (km : Rw) (qm : Tk) (bd : Int32) (ym : Tk) (p0 : Int32) (p1 : Int32) (x_1 : Int32) (ex_1 : x_1 = bm.2.1 / 8) (c_12 : (x_1 - p0) ≤ p1) (x_2 : Int32) (ex_2 : x_2 = x_1 - p0) (r_3 : Int32) (hw_4 : r_3 = FX3_isIn p0.toInt64 0 ((x_1 - 1).toInt64)) (c_35 : ¬ (r_3 = 0)) (c_43 : 0 ≤ p1) (c_60 : (km.2 + x_2) ≤ 600) : LX3_pass_68 st lo th bm km qm bd ym p0 p1 x_1 x_2 0 = FX3_pass st lo th bm km qm bd ym p0 p1 := by
  subst ex_1
  subst ex_2
  subst hw_4
  exact ((((if_pos c_12).trans (if_neg c_35)).trans (if_pos c_43)).trans (if_pos c_60)).symm
set_option maxRecDepth 100000 in
theorem plX3_pass_1 (st : Int32) (lo : Int32) (th : Int32) (bm : Bm) (km : Rw) (qm : Tk) (bd : Int32) (ym : Tk) (p0 : Int32) (p1 : Int32) (x_1 : Int32) (ex_1 : x_1 = bm.2.1 / 8) (c_12 : (x_1 - p0) ≤ p1) (x_2 : Int32) (ex_2 : x_2 = x_1 - p0) (r_3 : Int32) (hw_4 : r_3 = FX3_isIn p0.toInt64 0 ((x_1 - 1).toInt64)) (c_35 : ¬ (r_3 = 0)) (c_43 : 0 ≤ p1) (c_60 : ¬ ((km.2 + x_2) ≤ 600)) : LX3_pass_68 st lo th bm km qm bd ym p0 p1 x_1 x_2 3 = FX3_pass st lo th bm km qm bd ym p0 p1 := by
  subst ex_1
  subst ex_2
  subst hw_4
  exact ((((if_pos c_12).trans (if_neg c_35)).trans (if_pos c_43)).trans (if_neg c_60)).symm
set_option maxRecDepth 100000 in
theorem plX3_pass_2 (st : Int32) (lo : Int32) (th : Int32) (bm : Bm) (km : Rw) (qm : Tk) (bd : Int32) (ym : Tk) (p0 : Int32) (p1 : Int32) (x_1 : Int32) (ex_1 : x_1 = bm.2.1 / 8) (c_12 : (x_1 - p0) ≤ p1) (x_2 : Int32) (ex_2 : x_2 = x_1 - p0) (r_3 : Int32) (hw_4 : r_3 = FX3_isIn p0.toInt64 0 ((x_1 - 1).toInt64)) (c_35 : ¬ (r_3 = 0)) (c_43 : ¬ (0 ≤ p1)) : LX3_pass_68 st lo th bm km qm bd ym p0 p1 x_1 x_2 2 = FX3_pass st lo th bm km qm bd ym p0 p1 := by
  subst ex_1
  subst ex_2
  subst hw_4
  exact (((if_pos c_12).trans (if_neg c_35)).trans (if_neg c_43)).symm
set_option maxRecDepth 100000 in
theorem plX3_pass_3 (st : Int32) (lo : Int32) (th : Int32) (bm : Bm) (km : Rw) (qm : Tk) (bd : Int32) (ym : Tk) (p0 : Int32) (p1 : Int32) (x_1 : Int32) (ex_1 : x_1 = bm.2.1 / 8) (c_12 : (x_1 - p0) ≤ p1) (x_2 : Int32) (ex_2 : x_2 = x_1 - p0) (r_3 : Int32) (hw_4 : r_3 = FX3_isIn p0.toInt64 0 ((x_1 - 1).toInt64)) (c_35 : r_3 = 0) : LX3_pass_68 st lo th bm km qm bd ym p0 p1 x_1 x_2 1 = FX3_pass st lo th bm km qm bd ym p0 p1 := by
  subst ex_1
  subst ex_2
  subst hw_4
  exact ((if_pos c_12).trans (if_pos c_35)).symm
set_option maxRecDepth 100000 in
theorem plX3_pass_4 (st : Int32) (lo : Int32) (th : Int32) (bm : Bm) (km : Rw) (qm : Tk) (bd : Int32) (ym : Tk) (p0 : Int32) (p1 : Int32) (x_1 : Int32) (ex_1 : x_1 = bm.2.1 / 8) (c_12 : ¬ ((x_1 - p0) ≤ p1)) (r_5 : Int32) (hw_6 : r_5 = FX3_isIn p0.toInt64 0 ((x_1 - 1).toInt64)) (c_35 : ¬ (r_5 = 0)) (c_43 : 0 ≤ p1) (c_60 : (km.2 + p1) ≤ 600) : LX3_pass_68 st lo th bm km qm bd ym p0 p1 x_1 p1 0 = FX3_pass st lo th bm km qm bd ym p0 p1 := by
  subst ex_1
  subst hw_6
  exact ((((if_neg c_12).trans (if_neg c_35)).trans (if_pos c_43)).trans (if_pos c_60)).symm
set_option maxRecDepth 100000 in
theorem plX3_pass_5 (st : Int32) (lo : Int32) (th : Int32) (bm : Bm) (km : Rw) (qm : Tk) (bd : Int32) (ym : Tk) (p0 : Int32) (p1 : Int32) (x_1 : Int32) (ex_1 : x_1 = bm.2.1 / 8) (c_12 : ¬ ((x_1 - p0) ≤ p1)) (r_5 : Int32) (hw_6 : r_5 = FX3_isIn p0.toInt64 0 ((x_1 - 1).toInt64)) (c_35 : ¬ (r_5 = 0)) (c_43 : 0 ≤ p1) (c_60 : ¬ ((km.2 + p1) ≤ 600)) : LX3_pass_68 st lo th bm km qm bd ym p0 p1 x_1 p1 3 = FX3_pass st lo th bm km qm bd ym p0 p1 := by
  subst ex_1
  subst hw_6
  exact ((((if_neg c_12).trans (if_neg c_35)).trans (if_pos c_43)).trans (if_neg c_60)).symm
set_option maxRecDepth 100000 in
theorem plX3_pass_6 (st : Int32) (lo : Int32) (th : Int32) (bm : Bm) (km : Rw) (qm : Tk) (bd : Int32) (ym : Tk) (p0 : Int32) (p1 : Int32) (x_1 : Int32) (ex_1 : x_1 = bm.2.1 / 8) (c_12 : ¬ ((x_1 - p0) ≤ p1)) (r_5 : Int32) (hw_6 : r_5 = FX3_isIn p0.toInt64 0 ((x_1 - 1).toInt64)) (c_35 : ¬ (r_5 = 0)) (c_43 : ¬ (0 ≤ p1)) : LX3_pass_68 st lo th bm km qm bd ym p0 p1 x_1 p1 2 = FX3_pass st lo th bm km qm bd ym p0 p1 := by
  subst ex_1
  subst hw_6
  exact (((if_neg c_12).trans (if_neg c_35)).trans (if_neg c_43)).symm
set_option maxRecDepth 100000 in
theorem plX3_pass_7 (st : Int32) (lo : Int32) (th : Int32) (bm : Bm) (km : Rw) (qm : Tk) (bd : Int32) (ym : Tk) (p0 : Int32) (p1 : Int32) (x_1 : Int32) (ex_1 : x_1 = bm.2.1 / 8) (c_12 : ¬ ((x_1 - p0) ≤ p1)) (r_5 : Int32) (hw_6 : r_5 = FX3_isIn p0.toInt64 0 ((x_1 - 1).toInt64)) (c_35 : r_5 = 0) : LX3_pass_68 st lo th bm km qm bd ym p0 p1 x_1 p1 1 = FX3_pass st lo th bm km qm bd ym p0 p1 := by
  subst ex_1
  subst hw_6
  exact ((if_neg c_12).trans (if_pos c_35)).symm
set_option maxHeartbeats 4000000 in
set_option maxRecDepth 100000 in
theorem kX3_pass_83 {p : Program} {l : Launch} {e : Env} {s : State} {m : MethodId} {args : Array Value} {below : List Frame} {meth : Method} {c : Code} {dC : Nat → ClassId} {dI : Nat → Nat → Nat} {cZ cK : ClassId} {om ob ok : Nat} {st : Int32} {lo : Int32} {z : Int32 × Int32 × Rw} {A : Nat → Prop} (hx : p.tables.exec = Jvm.exec) (hb : c.code = cX3_pass) (hr : meth.sig.returnType = (some .int)) (hml : c.maxLocals = 6) (hown : s.vm.findClass RX3 = some m.cls) (hts : ∀ w ∈ G, w.before args s = true) (hlocks : meth.locks = false) (hA : ∀ q : Nat, s.heap.size ≤ q → A q) (hZ : zOk s) (hK : va_K (dC, dI) vwCl [(cZ, .boolean), (cK, .int)] s) : ∀ (n : Nat) (th : Int32) (bm : Bm) (km : Rw) (qm : Tk) (bd : Int32) (ym : Tk) (p0 : Int32) (p1 : Int32) (wh : Int32) (mn : Int32) (i : Int32), (fuel n i mn) → (psL bm km p0 mn i) → LX3_pass_83 st lo n th bm km qm bd ym p0 p1 wh mn i = z → ∀ (H : Heap) (locs : List Loc), va_P (dC, dI) vwCl [(om, .inr (3, [.int th, .int st, .int lo, .ref ob, .int bm.2.1, .int bm.2.2.1, .int bm.2.2.2.1, .int bm.2.2.2.2, .ref ok, .int km.2, .int qm.1, .int qm.2.1, .int qm.2.2.1, .int qm.2.2.2, .int bd, .int ym.1, .int ym.2.1, .int ym.2.2.1, .int ym.2.2.2])), (ob, .inl (cZ, 5200, .inl bm.1)), (ok, .inl (cK, 600, .inl km.1))] H → va_D A [(om, .inr (3, [.int th, .int st, .int lo, .ref ob, .int bm.2.1, .int bm.2.2.1, .int bm.2.2.2.1, .int bm.2.2.2.2, .ref ok, .int km.2, .int qm.1, .int qm.2.1, .int qm.2.2.1, .int qm.2.2.2, .int bd, .int ym.1, .int ym.2.1, .int ym.2.2.1, .int ym.2.2.2])), (ob, .inl (cZ, 5200, .inl bm.1)), (ok, .inl (cK, 600, .inl km.1))] → va_S A s.heap H locs → ∀ (ls : Array Slot), lv_has ls 6 [(0, .ref om), (1, .int p0), (2, .int p1), (3, .int wh), (4, .int mn), (5, .int i)] → W p l e (headSpec (Cond.code yX3_pass cX3_pass 6 (some .int) :: G) ({ frames := 1, cells := 0, slots := 0, locals := 25 } : Room)).room s m args below meth c H locs 0 0 (MQ below (va_Qi (fun (r : Int32) (u : Int32 × Rw) => (r, u) = z) (fun (u : Int32 × Rw) (t : State) => va_P (dC, dI) vwCl [(om, .inr (3, [.int u.1, .int st, .int lo, .ref ob, .int bm.2.1, .int bm.2.2.1, .int bm.2.2.2.1, .int bm.2.2.2.2, .ref ok, .int u.2.2, .int qm.1, .int qm.2.1, .int qm.2.2.1, .int qm.2.2.2, .int bd, .int ym.1, .int ym.2.1, .int ym.2.2.1, .int ym.2.2.2])), (ob, .inl (cZ, 5200, .inl bm.1)), (ok, .inl (cK, 600, .inl u.2.1))] t.heap ∧ va_D A [(om, .inr (3, [.int u.1, .int st, .int lo, .ref ob, .int bm.2.1, .int bm.2.2.1, .int bm.2.2.2.1, .int bm.2.2.2.2, .ref ok, .int u.2.2, .int qm.1, .int qm.2.1, .int qm.2.2.1, .int qm.2.2.2, .int bd, .int ym.1, .int ym.2.1, .int ym.2.2.1, .int ym.2.2.2])), (ob, .inl (cZ, 5200, .inl bm.1)), (ok, .inl (cK, 600, .inl u.2.1))]) A) args s 0 0 A) (F0 m 83 ls []) := by
  intro n
  induction n with
  | zero =>
    intro th bm km qm bd ym p0 p1 wh mn i hf hp hz
    exact absurd hf.1 (Nat.lt_irrefl 0)
  | succ n ih =>
    intro th bm km qm bd ym p0 p1 wh mn i hf hp hz H locs hP hD hS ls hl
    refine lv_iload hx hb dX3_pass_83 (lv_at hl 5 rfl) ?_
    refine lv_iload hx hb dX3_pass_85 (lv_at hl 4 rfl) ?_
    refine lv_icmp_ge (tgt := 123) hx hb dX3_pass_87 (by decide) (fun c_87 => ?_) (fun c_87 => ?_)
    · refine lv_iload hx hb dX3_pass_123 (lv_at hl 4 rfl) ?_
      have hP9 := hP.sub (ws' := [(om, .inr (3, [.int th, .int st, .int lo, .ref ob, .int bm.2.1, .int bm.2.2.1, .int bm.2.2.2.1, .int bm.2.2.2.2, .ref ok, .int km.2, .int qm.1, .int qm.2.1, .int qm.2.2.1, .int qm.2.2.2, .int bd, .int ym.1, .int ym.2.1, .int ym.2.2.1, .int ym.2.2.2])), (ob, .inl (cZ, 5200, .inl bm.1)), (ok, .inl (cK, 600, .inl km.1))]) [0, 1, 2] rfl
      have hD9 := hD.sub (ws' := [(om, .inr (3, [.int th, .int st, .int lo, .ref ob, .int bm.2.1, .int bm.2.2.1, .int bm.2.2.2.1, .int bm.2.2.2.2, .ref ok, .int km.2, .int qm.1, .int qm.2.1, .int qm.2.2.1, .int qm.2.2.2, .int bd, .int ym.1, .int ym.2.1, .int ym.2.2.1, .int ym.2.2.2])), (ob, .inl (cZ, 5200, .inl bm.1)), (ok, .inl (cK, 600, .inl km.1))]) [0, 1, 2] (by decide) rfl
      exact W.iret (v := mn) hx hb hr (fun t ht hW => ⟨⟨mn, (th, km), rfl, ((plX3_pass_l83_0 st lo n th bm km qm bd ym p0 p1 wh mn i c_87).trans hz), by rw [ht]; exact hP9, hD9⟩, hS.F ht⟩) hS.2.2 dX3_pass_125
    · refine lv_aload_n hx hb dX3_pass_90 rfl (lv_at hl 0 rfl) ?_
      refine va_get (D := (dC, dI)) (ci := 3) (v := .ref ok) (C := RX3) (T := TX3) (N := 19) hx hb hts inGX3 hown hK hP 0 rfl rfl 8 (by decide) (hts _ wd445) (fun _ h9 => h9) rfl dX3_pass_91 ?_
      refine lv_aload_n hx hb dX3_pass_94 rfl (lv_at hl 0 rfl) ?_
      refine va_get (D := (dC, dI)) (ci := 3) (v := .int km.2) (C := RX3) (T := TX3) (N := 19) hx hb hts inGX3 hown hK hP 0 rfl rfl 9 (by decide) (hts _ wd446) (fun _ h9 => h9) rfl dX3_pass_95 ?_
      refine lv_aload_n hx hb dX3_pass_98 rfl (lv_at hl 0 rfl) ?_
      refine lv_iload_n hx hb dX3_pass_99 rfl (lv_at hl 1 rfl) ?_
      refine lv_iload hx hb dX3_pass_100 (lv_at hl 5 rfl) ?_
      refine lv_iadd hx hb dX3_pass_102 ?_
      have hPc := hP.sub (ws' := [(om, .inr (3, [.int th, .int st, .int lo, .ref ob, .int bm.2.1, .int bm.2.2.1, .int bm.2.2.2.1, .int bm.2.2.2.2, .ref ok, .int km.2, .int qm.1, .int qm.2.1, .int qm.2.2.1, .int qm.2.2.2, .int bd, .int ym.1, .int ym.2.1, .int ym.2.2.1, .int ym.2.2.2])), (ob, .inl (cZ, 5200, .inl bm.1)), (ok, .inl (cK, 600, .inl km.1))]) [0, 1, 2] rfl
      have hKc := hK.sub (tys' := [(cZ, .boolean), (cK, .int)]) [0, 1] rfl
      refine vp_callSi (va_Run.run (va_runV (As := [.int (p0 + i)]) (rest := [.int km.2, .ref ok]) ⟨hx, hb, hml, hown, hts⟩ (mX3_byteOf l dC dI cZ cK om ob ok st lo th bm km qm bd ym (p0 + i) (ps_b hp c_87)) (cwV 1 hts (gV wd520 wd521 wd15 wd30 wd522) rfl rfl rfl (by decide +kernel) ⟨Nat.le_of_ble_eq_true rfl, Nat.le_of_ble_eq_true rfl⟩) ⟨fb_ro, va_recv hKc hPc (ci := 3) (q0 := 0) rfl rfl, pre_ro hPc hKc hZ⟩ rfl rfl hl.1 rfl (lv_room (Nat.le_of_ble_eq_true rfl)) dX3_pass_103 ⟨Nat.le_of_ble_eq_true rfl, Nat.le_of_ble_eq_true rfl⟩)) (fun r_1 hw_2 => ?_)
      refine va_iast hx hb hK hP hD hS 2 1 rfl rfl (ps_in hp c_87) dX3_pass_106 (fun H locs hP hD hS => ?_)
      have hP : va_P (dC, dI) vwCl [(om, .inr (3, [.int th, .int st, .int lo, .ref ob, .int bm.2.1, .int bm.2.2.1, .int bm.2.2.2.1, .int bm.2.2.2.2, .ref ok, .int km.2, .int qm.1, .int qm.2.1, .int qm.2.2.1, .int qm.2.2.2, .int bd, .int ym.1, .int ym.2.1, .int ym.2.2.1, .int ym.2.2.2])), (ob, .inl (cZ, 5200, .inl bm.1)), (ok, .inl (cK, 600, .inl (upd km.1 km.2.toNatClampNeg r_1)))] H := hP
      have hD : va_D A [(om, .inr (3, [.int th, .int st, .int lo, .ref ob, .int bm.2.1, .int bm.2.2.1, .int bm.2.2.2.1, .int bm.2.2.2.2, .ref ok, .int km.2, .int qm.1, .int qm.2.1, .int qm.2.2.1, .int qm.2.2.2, .int bd, .int ym.1, .int ym.2.1, .int ym.2.2.1, .int ym.2.2.2])), (ob, .inl (cZ, 5200, .inl bm.1)), (ok, .inl (cK, 600, .inl (upd km.1 km.2.toNatClampNeg r_1)))] := hD
      refine lv_aload_n hx hb dX3_pass_107 rfl (lv_at hl 0 rfl) ?_
      refine lv_dup hx hb dX3_pass_108 rfl ?_
      refine va_get (D := (dC, dI)) (ci := 3) (v := .int km.2) (C := RX3) (T := TX3) (N := 19) hx hb hts inGX3 hown hK hP 0 rfl rfl 9 (by decide) (hts _ wd446) (fun _ h9 => h9) rfl dX3_pass_109 ?_
      refine lv_iconst (v := 1) hx hb dX3_pass_112 (by decide) ?_
      refine lv_iadd hx hb dX3_pass_113 ?_
      refine lv_topi (fun f_3 ef_3 => ?_)
      refine va_put (D := (dC, dI)) (ci := 3) (v := .int f_3) (ty := .int) (C := RX3) (T := TX3) (N := 19) hx hb hts inGX3 tyX3 tyX3_ok nmX3 hown hK hP hD hS 0 rfl rfl 9 (by decide) (hts _ wd446) (fun _ h9 => h9) rfl (by decide +kernel) rfl rfl (Nat.le_of_ble_eq_true rfl) dX3_pass_114 (fun H locs hP hD hS => ?_)
      have hP : va_P (dC, dI) vwCl [(om, .inr (3, [.int th, .int st, .int lo, .ref ob, .int bm.2.1, .int bm.2.2.1, .int bm.2.2.2.1, .int bm.2.2.2.2, .ref ok, .int f_3, .int qm.1, .int qm.2.1, .int qm.2.2.1, .int qm.2.2.2, .int bd, .int ym.1, .int ym.2.1, .int ym.2.2.1, .int ym.2.2.2])), (ob, .inl (cZ, 5200, .inl bm.1)), (ok, .inl (cK, 600, .inl (upd km.1 km.2.toNatClampNeg r_1)))] H := hP
      have hD : va_D A [(om, .inr (3, [.int th, .int st, .int lo, .ref ob, .int bm.2.1, .int bm.2.2.1, .int bm.2.2.2.1, .int bm.2.2.2.2, .ref ok, .int f_3, .int qm.1, .int qm.2.1, .int qm.2.2.1, .int qm.2.2.2, .int bd, .int ym.1, .int ym.2.1, .int ym.2.2.1, .int ym.2.2.2])), (ob, .inl (cZ, 5200, .inl bm.1)), (ok, .inl (cK, 600, .inl (upd km.1 km.2.toNatClampNeg r_1)))] := hD
      obtain ⟨i_4, ei_4⟩ : ∃ y : Int32, y = i + 1 := ⟨_, rfl⟩
      refine lv_iinc (v := i_4) (lv' := [(5, .int i_4), (0, .ref om), (1, .int p0), (2, .int p1), (3, .int wh), (4, .int mn)]) hx hb dX3_pass_117 hl (k := 5) rfl (by rw [ei_4]; rfl) (by decide) rfl (fun ls hl => ?_)
      refine lv_goto (tgt := 83) hx hb dX3_pass_120 (by decide) ?_
      exact ih th bm (upd km.1 km.2.toNatClampNeg r_1, f_3) qm bd ym p0 p1 wh mn i_4 (fuel_step2 hf (nle_lt c_87) (by assumption)) (ps_back hp c_87 (by assumption) (by assumption)) ((plX3_pass_l83_1 st lo n th bm km qm bd ym p0 p1 wh mn i c_87 _ hw_2 _ ef_3 _ ei_4).trans hz) _ _ (hP.sub (ws' := [(om, .inr (3, [.int th, .int st, .int lo, .ref ob, .int bm.2.1, .int bm.2.2.1, .int bm.2.2.2.1, .int bm.2.2.2.2, .ref ok, .int ((upd km.1 km.2.toNatClampNeg r_1, f_3).2), .int qm.1, .int qm.2.1, .int qm.2.2.1, .int qm.2.2.2, .int bd, .int ym.1, .int ym.2.1, .int ym.2.2.1, .int ym.2.2.2])), (ob, .inl (cZ, 5200, .inl bm.1)), (ok, .inl (cK, 600, .inl ((upd km.1 km.2.toNatClampNeg r_1, f_3).1)))]) [0, 1, 2] rfl) (hD.sub (ws' := [(om, .inr (3, [.int th, .int st, .int lo, .ref ob, .int bm.2.1, .int bm.2.2.1, .int bm.2.2.2.1, .int bm.2.2.2.2, .ref ok, .int ((upd km.1 km.2.toNatClampNeg r_1, f_3).2), .int qm.1, .int qm.2.1, .int qm.2.2.1, .int qm.2.2.2, .int bd, .int ym.1, .int ym.2.1, .int ym.2.2.1, .int ym.2.2.2])), (ob, .inl (cZ, 5200, .inl bm.1)), (ok, .inl (cK, 600, .inl ((upd km.1 km.2.toNatClampNeg r_1, f_3).1)))]) [0, 1, 2] (by decide) rfl) hS ls (lv_sub hl [1, 2, 3, 4, 5, 0] rfl)
set_option maxHeartbeats 4000000 in
set_option maxRecDepth 100000 in
theorem kX3_pass_68 {p : Program} {l : Launch} {e : Env} {s : State} {m : MethodId} {args : Array Value} {below : List Frame} {meth : Method} {c : Code} {dC : Nat → ClassId} {dI : Nat → Nat → Nat} {cZ cK : ClassId} {om ob ok : Nat} {st : Int32} {lo : Int32} {z : Int32 × Int32 × Rw} {A : Nat → Prop} (hx : p.tables.exec = Jvm.exec) (hb : c.code = cX3_pass) (hr : meth.sig.returnType = (some .int)) (hml : c.maxLocals = 6) (hown : s.vm.findClass RX3 = some m.cls) (hts : ∀ w ∈ G, w.before args s = true) (hlocks : meth.locks = false) (hA : ∀ q : Nat, s.heap.size ≤ q → A q) (hZ : zOk s) (hK : va_K (dC, dI) vwCl [(cZ, .boolean), (cK, .int)] s) : ∀ (th : Int32) (bm : Bm) (km : Rw) (qm : Tk) (bd : Int32) (ym : Tk) (p0 : Int32) (p1 : Int32) (wh : Int32) (mn : Int32) (v : Int32), (v ≤ 0 → psL bm km p0 mn 0) → LX3_pass_68 st lo th bm km qm bd ym p0 p1 wh mn v = z → ∀ (H : Heap) (locs : List Loc), va_P (dC, dI) vwCl [(om, .inr (3, [.int th, .int st, .int lo, .ref ob, .int bm.2.1, .int bm.2.2.1, .int bm.2.2.2.1, .int bm.2.2.2.2, .ref ok, .int km.2, .int qm.1, .int qm.2.1, .int qm.2.2.1, .int qm.2.2.2, .int bd, .int ym.1, .int ym.2.1, .int ym.2.2.1, .int ym.2.2.2])), (ob, .inl (cZ, 5200, .inl bm.1)), (ok, .inl (cK, 600, .inl km.1))] H → va_D A [(om, .inr (3, [.int th, .int st, .int lo, .ref ob, .int bm.2.1, .int bm.2.2.1, .int bm.2.2.2.1, .int bm.2.2.2.2, .ref ok, .int km.2, .int qm.1, .int qm.2.1, .int qm.2.2.1, .int qm.2.2.2, .int bd, .int ym.1, .int ym.2.1, .int ym.2.2.1, .int ym.2.2.2])), (ob, .inl (cZ, 5200, .inl bm.1)), (ok, .inl (cK, 600, .inl km.1))] → va_S A s.heap H locs → ∀ (ls : Array Slot), lv_has ls 6 [(0, .ref om), (1, .int p0), (2, .int p1), (3, .int wh), (4, .int mn)] → W p l e (headSpec (Cond.code yX3_pass cX3_pass 6 (some .int) :: G) ({ frames := 1, cells := 0, slots := 0, locals := 25 } : Room)).room s m args below meth c H locs 0 0 (MQ below (va_Qi (fun (r : Int32) (u : Int32 × Rw) => (r, u) = z) (fun (u : Int32 × Rw) (t : State) => va_P (dC, dI) vwCl [(om, .inr (3, [.int u.1, .int st, .int lo, .ref ob, .int bm.2.1, .int bm.2.2.1, .int bm.2.2.2.1, .int bm.2.2.2.2, .ref ok, .int u.2.2, .int qm.1, .int qm.2.1, .int qm.2.2.1, .int qm.2.2.2, .int bd, .int ym.1, .int ym.2.1, .int ym.2.2.1, .int ym.2.2.2])), (ob, .inl (cZ, 5200, .inl bm.1)), (ok, .inl (cK, 600, .inl u.2.1))] t.heap ∧ va_D A [(om, .inr (3, [.int u.1, .int st, .int lo, .ref ob, .int bm.2.1, .int bm.2.2.1, .int bm.2.2.2.1, .int bm.2.2.2.2, .ref ok, .int u.2.2, .int qm.1, .int qm.2.1, .int qm.2.2.1, .int qm.2.2.2, .int bd, .int ym.1, .int ym.2.1, .int ym.2.2.1, .int ym.2.2.2])), (ob, .inl (cZ, 5200, .inl bm.1)), (ok, .inl (cK, 600, .inl u.2.1))]) A) args s 0 0 A) (F0 m 68 ls [.int v, .ref om]) := by
  intro th bm km qm bd ym p0 p1 wh mn v hv hz H locs hP hD hS ls hl
  refine va_put (D := (dC, dI)) (ci := 3) (v := .int v) (ty := .int) (C := RX3) (T := TX3) (N := 19) hx hb hts inGX3 tyX3 tyX3_ok nmX3 hown hK hP hD hS 0 rfl rfl 0 (by decide) (hts _ wd437) (fun _ h9 => h9) rfl (by decide +kernel) rfl rfl (Nat.le_of_ble_eq_true rfl) dX3_pass_68 (fun H locs hP hD hS => ?_)
  have hP : va_P (dC, dI) vwCl [(om, .inr (3, [.int v, .int st, .int lo, .ref ob, .int bm.2.1, .int bm.2.2.1, .int bm.2.2.2.1, .int bm.2.2.2.2, .ref ok, .int km.2, .int qm.1, .int qm.2.1, .int qm.2.2.1, .int qm.2.2.2, .int bd, .int ym.1, .int ym.2.1, .int ym.2.2.1, .int ym.2.2.2])), (ob, .inl (cZ, 5200, .inl bm.1)), (ok, .inl (cK, 600, .inl km.1))] H := hP
  have hD : va_D A [(om, .inr (3, [.int v, .int st, .int lo, .ref ob, .int bm.2.1, .int bm.2.2.1, .int bm.2.2.2.1, .int bm.2.2.2.2, .ref ok, .int km.2, .int qm.1, .int qm.2.1, .int qm.2.2.1, .int qm.2.2.2, .int bd, .int ym.1, .int ym.2.1, .int ym.2.2.1, .int ym.2.2.2])), (ob, .inl (cZ, 5200, .inl bm.1)), (ok, .inl (cK, 600, .inl km.1))] := hD
  refine lv_aload_n hx hb dX3_pass_71 rfl (lv_at hl 0 rfl) ?_
  refine va_get (D := (dC, dI)) (ci := 3) (v := .int v) (C := RX3) (T := TX3) (N := 19) hx hb hts inGX3 hown hK hP 0 rfl rfl 0 (by decide) (hts _ wd437) (fun _ h9 => h9) rfl dX3_pass_72 ?_
  refine lv_if_le (tgt := 80) hx hb dX3_pass_75 (by decide) (fun c_75 => ?_) (fun c_75 => ?_)
  · refine lv_iconst (v := 0) hx hb dX3_pass_80 (by decide) ?_
    refine lv_istore (lv' := [(5, .int 0), (0, .ref om), (1, .int p0), (2, .int p1), (3, .int wh), (4, .int mn)]) hx hb dX3_pass_81 hl (by decide) rfl (fun ls hl => ?_)
    exact kX3_pass_83 hx hb hr hml hown hts hlocks hA hZ hK (fz 0 mn) v bm km qm bd ym p0 p1 wh mn 0 (fz_ok _ _) (hv c_75) ((plX3_pass_l68_0 st lo th bm km qm bd ym p0 p1 wh mn v c_75).trans hz) _ _ (hP.sub (ws' := [(om, .inr (3, [.int v, .int st, .int lo, .ref ob, .int bm.2.1, .int bm.2.2.1, .int bm.2.2.2.1, .int bm.2.2.2.2, .ref ok, .int km.2, .int qm.1, .int qm.2.1, .int qm.2.2.1, .int qm.2.2.2, .int bd, .int ym.1, .int ym.2.1, .int ym.2.2.1, .int ym.2.2.2])), (ob, .inl (cZ, 5200, .inl bm.1)), (ok, .inl (cK, 600, .inl km.1))]) [0, 1, 2] rfl) (hD.sub (ws' := [(om, .inr (3, [.int v, .int st, .int lo, .ref ob, .int bm.2.1, .int bm.2.2.1, .int bm.2.2.2.1, .int bm.2.2.2.2, .ref ok, .int km.2, .int qm.1, .int qm.2.1, .int qm.2.2.1, .int qm.2.2.2, .int bd, .int ym.1, .int ym.2.1, .int ym.2.2.1, .int ym.2.2.2])), (ob, .inl (cZ, 5200, .inl bm.1)), (ok, .inl (cK, 600, .inl km.1))]) [0, 1, 2] (by decide) rfl) hS ls (lv_sub hl [1, 2, 3, 4, 5, 0] rfl)
  · refine lv_iconst (v := 0) hx hb dX3_pass_78 (by decide) ?_
    have hP9 := hP.sub (ws' := [(om, .inr (3, [.int v, .int st, .int lo, .ref ob, .int bm.2.1, .int bm.2.2.1, .int bm.2.2.2.1, .int bm.2.2.2.2, .ref ok, .int km.2, .int qm.1, .int qm.2.1, .int qm.2.2.1, .int qm.2.2.2, .int bd, .int ym.1, .int ym.2.1, .int ym.2.2.1, .int ym.2.2.2])), (ob, .inl (cZ, 5200, .inl bm.1)), (ok, .inl (cK, 600, .inl km.1))]) [0, 1, 2] rfl
    have hD9 := hD.sub (ws' := [(om, .inr (3, [.int v, .int st, .int lo, .ref ob, .int bm.2.1, .int bm.2.2.1, .int bm.2.2.2.1, .int bm.2.2.2.2, .ref ok, .int km.2, .int qm.1, .int qm.2.1, .int qm.2.2.1, .int qm.2.2.2, .int bd, .int ym.1, .int ym.2.1, .int ym.2.2.1, .int ym.2.2.2])), (ob, .inl (cZ, 5200, .inl bm.1)), (ok, .inl (cK, 600, .inl km.1))]) [0, 1, 2] (by decide) rfl
    exact W.iret (v := 0) hx hb hr (fun t ht hW => ⟨⟨0, (v, km), rfl, ((plX3_pass_l68_1 st lo th bm km qm bd ym p0 p1 wh mn v c_75).trans hz), by rw [ht]; exact hP9, hD9⟩, hS.F ht⟩) hS.2.2 dX3_pass_79
set_option maxHeartbeats 4000000 in
set_option maxRecDepth 100000 in
theorem mX3_pass (l : Launch) (dC : Nat → ClassId) (dI : Nat → Nat → Nat) (cZ cK : ClassId) (om ob ok : Nat) (sz : Nat) (st : Int32) (lo : Int32) (th : Int32) (bm : Bm) (km : Rw) (qm : Tk) (bd : Int32) (ym : Tk) (p0 : Int32) (p1 : Int32) (hW : wok bm 400) (hC : cOk km) : Met l yX3_pass (Cond.code yX3_pass cX3_pass 6 (some .int) :: G) ({ frames := 1, cells := 0, slots := 0, locals := 25 } : Room) (va_Pc [.ref om, .int p0, .int p1] (fun U => U.heap.size = sz ∧ va_P (dC, dI) vwCl [(om, .inr (3, [.int th, .int st, .int lo, .ref ob, .int bm.2.1, .int bm.2.2.1, .int bm.2.2.2.1, .int bm.2.2.2.2, .ref ok, .int km.2, .int qm.1, .int qm.2.1, .int qm.2.2.1, .int qm.2.2.2, .int bd, .int ym.1, .int ym.2.1, .int ym.2.2.1, .int ym.2.2.2])), (ob, .inl (cZ, 5200, .inl bm.1)), (ok, .inl (cK, 600, .inl km.1))] U.heap ∧ va_K (dC, dI) vwCl [(cZ, .boolean), (cK, .int)] U ∧ va_D (fun _ => True) [(om, .inr (3, [.int th, .int st, .int lo, .ref ob, .int bm.2.1, .int bm.2.2.1, .int bm.2.2.2.1, .int bm.2.2.2.2, .ref ok, .int km.2, .int qm.1, .int qm.2.1, .int qm.2.2.1, .int qm.2.2.2, .int bd, .int ym.1, .int ym.2.1, .int ym.2.2.1, .int ym.2.2.2])), (ob, .inl (cZ, 5200, .inl bm.1)), (ok, .inl (cK, 600, .inl km.1))] ∧ zOk U)) (va_Qi (fun (r : Int32) (u : Int32 × Rw) => (r, u) = (FX3_pass st lo th bm km qm bd ym p0 p1)) (fun (u : Int32 × Rw) (t : State) => va_P (dC, dI) vwCl [(om, .inr (3, [.int u.1, .int st, .int lo, .ref ob, .int bm.2.1, .int bm.2.2.1, .int bm.2.2.2.1, .int bm.2.2.2.2, .ref ok, .int u.2.2, .int qm.1, .int qm.2.1, .int qm.2.2.1, .int qm.2.2.2, .int bd, .int ym.1, .int ym.2.1, .int ym.2.2.1, .int ym.2.2.2])), (ob, .inl (cZ, 5200, .inl bm.1)), (ok, .inl (cK, 600, .inl u.2.1))] t.heap ∧ va_D (va_A [(om, .inr (3, [.int th, .int st, .int lo, .ref ob, .int bm.2.1, .int bm.2.2.1, .int bm.2.2.2.1, .int bm.2.2.2.2, .ref ok, .int km.2, .int qm.1, .int qm.2.1, .int qm.2.2.1, .int qm.2.2.2, .int bd, .int ym.1, .int ym.2.1, .int ym.2.2.1, .int ym.2.2.2])), (ob, .inl (cZ, 5200, .inl bm.1)), (ok, .inl (cK, 600, .inl km.1))] sz) [(om, .inr (3, [.int u.1, .int st, .int lo, .ref ob, .int bm.2.1, .int bm.2.2.1, .int bm.2.2.2.1, .int bm.2.2.2.2, .ref ok, .int u.2.2, .int qm.1, .int qm.2.1, .int qm.2.2.1, .int qm.2.2.2, .int bd, .int ym.1, .int ym.2.1, .int ym.2.2.1, .int ym.2.2.2])), (ob, .inl (cZ, 5200, .inl bm.1)), (ok, .inl (cK, 600, .inl u.2.1))]) (va_A [(om, .inr (3, [.int th, .int st, .int lo, .ref ob, .int bm.2.1, .int bm.2.2.1, .int bm.2.2.2.1, .int bm.2.2.2.2, .ref ok, .int km.2, .int qm.1, .int qm.2.1, .int qm.2.2.1, .int qm.2.2.2, .int bd, .int ym.1, .int ym.2.1, .int ym.2.2.1, .int ym.2.2.2])), (ob, .inl (cZ, 5200, .inl bm.1)), (ok, .inl (cK, 600, .inl km.1))] sz)) 0 0 (va_A [(om, .inr (3, [.int th, .int st, .int lo, .ref ob, .int bm.2.1, .int bm.2.2.1, .int bm.2.2.2.1, .int bm.2.2.2.2, .ref ok, .int km.2, .int qm.1, .int qm.2.1, .int qm.2.2.1, .int qm.2.2.2, .int bd, .int ym.1, .int ym.2.1, .int ym.2.2.1, .int ym.2.2.2])), (ob, .inl (cZ, 5200, .inl bm.1)), (ok, .inl (cK, 600, .inl km.1))] sz) := by
  refine Met.ofW (cc := cX3_pass) (maxL := 6) (ret := (some .int)) (by decide) rfl ?_
  intro p e s m args below meth c s₁ B hml hv
  obtain ⟨rfl, hsz, hP, hK, hD0, hZ⟩ := hv
  have hx := B.exec
  have hb := B.bytes
  have hr := B.returns
  have hts : ∀ w ∈ G, w.before [.ref om, .int p0, .int p1].toArray s = true := fun w h => atoms_spec (ws := (Cond.code yX3_pass cX3_pass 6 (some .int) :: G)) B.pre w (List.mem_cons_of_mem _ h)
  have hown : s.vm.findClass RX3 = some m.cls := findClass_of_methodNamed B.named
  have hlocks := B.notSynchronized
  subst hsz
  have hD := hD0.self (sz := s.heap.size)
  generalize hAe : va_A [(om, .inr (3, [.int th, .int st, .int lo, .ref ob, .int bm.2.1, .int bm.2.2.1, .int bm.2.2.2.1, .int bm.2.2.2.2, .ref ok, .int km.2, .int qm.1, .int qm.2.1, .int qm.2.2.1, .int qm.2.2.2, .int bd, .int ym.1, .int ym.2.1, .int ym.2.2.1, .int ym.2.2.2])), (ob, .inl (cZ, 5200, .inl bm.1)), (ok, .inl (cK, 600, .inl km.1))] s.heap.size = A at hD ⊢
  have hA : ∀ q : Nat, s.heap.size ≤ q → A q := fun q h => by rw [← hAe]; exact Or.inr h
  have hS : va_S A s.heap s.heap [] := va_S.rf
  have hP : va_P (dC, dI) vwCl [(om, .inr (3, [.int th, .int st, .int lo, .ref ob, .int bm.2.1, .int bm.2.2.1, .int bm.2.2.2.1, .int bm.2.2.2.2, .ref ok, .int km.2, .int qm.1, .int qm.2.1, .int qm.2.2.1, .int qm.2.2.2, .int bd, .int ym.1, .int ym.2.1, .int ym.2.2.1, .int ym.2.2.2])), (ob, .inl (cZ, 5200, .inl bm.1)), (ok, .inl (cK, 600, .inl km.1))] s.heap := hP
  have hl := lv_entry ([.ref om, .int p0, .int p1]) (n := 6) (Nat.le_of_ble_eq_true rfl)
  rw [lg_entry_eq]
  generalize (lg_sl ([.ref om, .int p0, .int p1]) ++ List.replicate (6 - (lg_sl ([.ref om, .int p0, .int p1])).length) Slot.unset).toArray = ls at hl ⊢
  have hl : lv_has ls 6 [(0, .ref om), (1, .int p0), (2, .int p1)] := hl
  refine lv_aload_n hx hb dX3_pass_0 rfl (lv_at hl 0 rfl) ?_
  refine va_get (D := (dC, dI)) (ci := 3) (v := .int bm.2.1) (C := RX3) (T := TX3) (N := 19) hx hb hts inGX3 hown hK hP 0 rfl rfl 4 (by decide) (hts _ wd441) (fun _ h9 => h9) rfl dX3_pass_1 ?_
  refine lv_bipush (v := 8) hx hb dX3_pass_4 (by decide) ?_
  refine lv_idiv hx hb dX3_pass_6 (by decide) ?_
  refine lv_topi (fun x_1 ex_1 => ?_)
  refine lv_istore_n (lv' := [(3, .int x_1), (0, .ref om), (1, .int p0), (2, .int p1)]) hx hb dX3_pass_7 rfl hl (by decide) rfl (fun ls hl => ?_)
  refine lv_iload_n hx hb dX3_pass_8 rfl (lv_at hl 3 rfl) ?_
  refine lv_iload_n hx hb dX3_pass_9 rfl (lv_at hl 0 rfl) ?_
  refine lv_iload_n hx hb dX3_pass_10 rfl (lv_at hl 2 rfl) ?_
  refine lv_isub hx hb dX3_pass_11 ?_
  refine lv_icmp_ge (tgt := 19) hx hb dX3_pass_12 (by decide) (fun c_12 => ?_) (fun c_12 => ?_)
  · refine lv_iload_n hx hb dX3_pass_19 rfl (lv_at hl 0 rfl) ?_
    refine lv_iload_n hx hb dX3_pass_20 rfl (lv_at hl 2 rfl) ?_
    refine lv_isub hx hb dX3_pass_21 ?_
    refine lv_topi (fun x_2 ex_2 => ?_)
    refine lv_istore (lv' := [(4, .int x_2), (3, .int x_1), (0, .ref om), (1, .int p0), (2, .int p1)]) hx hb dX3_pass_22 hl (by decide) rfl (fun ls hl => ?_)
    refine lv_aload_n hx hb dX3_pass_24 rfl (lv_at hl 2 rfl) ?_
    refine lv_iload_n hx hb dX3_pass_25 rfl (lv_at hl 3 rfl) ?_
    refine lv_i2l (v := p0.toInt64) hx hb dX3_pass_26 rfl ?_
    refine lv_lconst (v := 0) hx hb dX3_pass_27 (by decide) ?_
    refine lv_iload_n hx hb dX3_pass_28 rfl (lv_at hl 1 rfl) ?_
    refine lv_iconst (v := 1) hx hb dX3_pass_29 (by decide) ?_
    refine lv_isub hx hb dX3_pass_30 ?_
    refine lv_i2l (v := (x_1 - 1).toInt64) hx hb dX3_pass_31 rfl ?_
    refine vp_callSi (va_Run.run (va_runS (As := [.long p0.toInt64, .long 0, .long ((x_1 - 1).toInt64)]) (rest := [.ref om]) ⟨hx, hb, hml, hown, hts⟩ (mX3_isIn l dC dI p0.toInt64 0 ((x_1 - 1).toInt64)) (va_cwS 3 hts (gS wd505 wd506 wd30 wd507) rfl rfl rfl (by decide +kernel) ⟨Nat.le_of_ble_eq_true rfl, Nat.le_of_ble_eq_true rfl⟩) ⟨fb_nw, pre_nw hZ⟩ rfl rfl hl.1 rfl (lv_room (Nat.le_of_ble_eq_true rfl)) dX3_pass_32 ⟨Nat.le_of_ble_eq_true rfl, Nat.le_of_ble_eq_true rfl⟩)) (fun r_3 hw_4 => ?_)
    refine lv_if_ne (tgt := 42) hx hb dX3_pass_35 (by decide) (fun c_35 => ?_) (fun c_35 => ?_)
    · refine lv_iload_n hx hb dX3_pass_42 rfl (lv_at hl 4 rfl) ?_
      refine lv_if_ge (tgt := 50) hx hb dX3_pass_43 (by decide) (fun c_43 => ?_) (fun c_43 => ?_)
      · refine lv_aload_n hx hb dX3_pass_50 rfl (lv_at hl 2 rfl) ?_
        refine va_get (D := (dC, dI)) (ci := 3) (v := .int km.2) (C := RX3) (T := TX3) (N := 19) hx hb hts inGX3 hown hK hP 0 rfl rfl 9 (by decide) (hts _ wd446) (fun _ h9 => h9) rfl dX3_pass_51 ?_
        refine lv_iload hx hb dX3_pass_54 (lv_at hl 0 rfl) ?_
        refine lv_iadd hx hb dX3_pass_56 ?_
        refine lv_sipush (v := 600) hx hb dX3_pass_57 (by decide) ?_
        refine lv_icmp_le (tgt := 67) hx hb dX3_pass_60 (by decide) (fun c_60 => ?_) (fun c_60 => ?_)
        · refine lv_iconst (v := 0) hx hb dX3_pass_67 (by decide) ?_
          exact kX3_pass_68 hx hb hr hml hown hts hlocks hA hZ hK  th bm km qm bd ym p0 p1 x_1 x_2 0 (by first | exact fun h => absurd h (by decide) | exact fun _ => ps_of1 hW hC (by assumption) c_12 (by assumption) c_35 c_43 c_60 | exact fun _ => ps_of2 hW hC (by assumption) (by assumption) (by assumption) c_35 c_60) (plX3_pass_0 st lo th bm km qm bd ym p0 p1 _ ex_1 c_12 _ ex_2 _ hw_4 c_35 c_43 c_60) _ _ (hP.sub (ws' := [(om, .inr (3, [.int th, .int st, .int lo, .ref ob, .int bm.2.1, .int bm.2.2.1, .int bm.2.2.2.1, .int bm.2.2.2.2, .ref ok, .int km.2, .int qm.1, .int qm.2.1, .int qm.2.2.1, .int qm.2.2.2, .int bd, .int ym.1, .int ym.2.1, .int ym.2.2.1, .int ym.2.2.2])), (ob, .inl (cZ, 5200, .inl bm.1)), (ok, .inl (cK, 600, .inl km.1))]) [0, 1, 2] rfl) (hD.sub (ws' := [(om, .inr (3, [.int th, .int st, .int lo, .ref ob, .int bm.2.1, .int bm.2.2.1, .int bm.2.2.2.1, .int bm.2.2.2.2, .ref ok, .int km.2, .int qm.1, .int qm.2.1, .int qm.2.2.1, .int qm.2.2.2, .int bd, .int ym.1, .int ym.2.1, .int ym.2.2.1, .int ym.2.2.2])), (ob, .inl (cZ, 5200, .inl bm.1)), (ok, .inl (cK, 600, .inl km.1))]) [0, 1, 2] (by decide) rfl) hS ls (lv_sub hl [2, 3, 4, 1, 0] rfl)
        · refine lv_iconst (v := 3) hx hb dX3_pass_63 (by decide) ?_
          refine lv_goto (tgt := 68) hx hb dX3_pass_64 (by decide) ?_
          exact kX3_pass_68 hx hb hr hml hown hts hlocks hA hZ hK  th bm km qm bd ym p0 p1 x_1 x_2 3 (by first | exact fun h => absurd h (by decide) | exact fun _ => ps_of1 hW hC (by assumption) c_12 (by assumption) c_35 c_43 c_60 | exact fun _ => ps_of2 hW hC (by assumption) (by assumption) (by assumption) c_35 c_60) (plX3_pass_1 st lo th bm km qm bd ym p0 p1 _ ex_1 c_12 _ ex_2 _ hw_4 c_35 c_43 c_60) _ _ (hP.sub (ws' := [(om, .inr (3, [.int th, .int st, .int lo, .ref ob, .int bm.2.1, .int bm.2.2.1, .int bm.2.2.2.1, .int bm.2.2.2.2, .ref ok, .int km.2, .int qm.1, .int qm.2.1, .int qm.2.2.1, .int qm.2.2.2, .int bd, .int ym.1, .int ym.2.1, .int ym.2.2.1, .int ym.2.2.2])), (ob, .inl (cZ, 5200, .inl bm.1)), (ok, .inl (cK, 600, .inl km.1))]) [0, 1, 2] rfl) (hD.sub (ws' := [(om, .inr (3, [.int th, .int st, .int lo, .ref ob, .int bm.2.1, .int bm.2.2.1, .int bm.2.2.2.1, .int bm.2.2.2.2, .ref ok, .int km.2, .int qm.1, .int qm.2.1, .int qm.2.2.1, .int qm.2.2.2, .int bd, .int ym.1, .int ym.2.1, .int ym.2.2.1, .int ym.2.2.2])), (ob, .inl (cZ, 5200, .inl bm.1)), (ok, .inl (cK, 600, .inl km.1))]) [0, 1, 2] (by decide) rfl) hS ls (lv_sub hl [2, 3, 4, 1, 0] rfl)
      · refine lv_iconst (v := 2) hx hb dX3_pass_46 (by decide) ?_
        refine lv_goto (tgt := 68) hx hb dX3_pass_47 (by decide) ?_
        exact kX3_pass_68 hx hb hr hml hown hts hlocks hA hZ hK  th bm km qm bd ym p0 p1 x_1 x_2 2 (by first | exact fun h => absurd h (by decide) | exact fun _ => ps_of1 hW hC (by assumption) c_12 (by assumption) c_35 c_43 c_60 | exact fun _ => ps_of2 hW hC (by assumption) (by assumption) (by assumption) c_35 c_60) (plX3_pass_2 st lo th bm km qm bd ym p0 p1 _ ex_1 c_12 _ ex_2 _ hw_4 c_35 c_43) _ _ (hP.sub (ws' := [(om, .inr (3, [.int th, .int st, .int lo, .ref ob, .int bm.2.1, .int bm.2.2.1, .int bm.2.2.2.1, .int bm.2.2.2.2, .ref ok, .int km.2, .int qm.1, .int qm.2.1, .int qm.2.2.1, .int qm.2.2.2, .int bd, .int ym.1, .int ym.2.1, .int ym.2.2.1, .int ym.2.2.2])), (ob, .inl (cZ, 5200, .inl bm.1)), (ok, .inl (cK, 600, .inl km.1))]) [0, 1, 2] rfl) (hD.sub (ws' := [(om, .inr (3, [.int th, .int st, .int lo, .ref ob, .int bm.2.1, .int bm.2.2.1, .int bm.2.2.2.1, .int bm.2.2.2.2, .ref ok, .int km.2, .int qm.1, .int qm.2.1, .int qm.2.2.1, .int qm.2.2.2, .int bd, .int ym.1, .int ym.2.1, .int ym.2.2.1, .int ym.2.2.2])), (ob, .inl (cZ, 5200, .inl bm.1)), (ok, .inl (cK, 600, .inl km.1))]) [0, 1, 2] (by decide) rfl) hS ls (lv_sub hl [2, 3, 4, 1, 0] rfl)
    · refine lv_iconst (v := 1) hx hb dX3_pass_38 (by decide) ?_
      refine lv_goto (tgt := 68) hx hb dX3_pass_39 (by decide) ?_
      exact kX3_pass_68 hx hb hr hml hown hts hlocks hA hZ hK  th bm km qm bd ym p0 p1 x_1 x_2 1 (by first | exact fun h => absurd h (by decide) | exact fun _ => ps_of1 hW hC (by assumption) c_12 (by assumption) c_35 c_43 c_60 | exact fun _ => ps_of2 hW hC (by assumption) (by assumption) (by assumption) c_35 c_60) (plX3_pass_3 st lo th bm km qm bd ym p0 p1 _ ex_1 c_12 _ ex_2 _ hw_4 c_35) _ _ (hP.sub (ws' := [(om, .inr (3, [.int th, .int st, .int lo, .ref ob, .int bm.2.1, .int bm.2.2.1, .int bm.2.2.2.1, .int bm.2.2.2.2, .ref ok, .int km.2, .int qm.1, .int qm.2.1, .int qm.2.2.1, .int qm.2.2.2, .int bd, .int ym.1, .int ym.2.1, .int ym.2.2.1, .int ym.2.2.2])), (ob, .inl (cZ, 5200, .inl bm.1)), (ok, .inl (cK, 600, .inl km.1))]) [0, 1, 2] rfl) (hD.sub (ws' := [(om, .inr (3, [.int th, .int st, .int lo, .ref ob, .int bm.2.1, .int bm.2.2.1, .int bm.2.2.2.1, .int bm.2.2.2.2, .ref ok, .int km.2, .int qm.1, .int qm.2.1, .int qm.2.2.1, .int qm.2.2.2, .int bd, .int ym.1, .int ym.2.1, .int ym.2.2.1, .int ym.2.2.2])), (ob, .inl (cZ, 5200, .inl bm.1)), (ok, .inl (cK, 600, .inl km.1))]) [0, 1, 2] (by decide) rfl) hS ls (lv_sub hl [2, 3, 4, 1, 0] rfl)
  · refine lv_iload_n hx hb dX3_pass_15 rfl (lv_at hl 3 rfl) ?_
    refine lv_goto (tgt := 22) hx hb dX3_pass_16 (by decide) ?_
    refine lv_istore (lv' := [(4, .int p1), (3, .int x_1), (0, .ref om), (1, .int p0), (2, .int p1)]) hx hb dX3_pass_22 hl (by decide) rfl (fun ls hl => ?_)
    refine lv_aload_n hx hb dX3_pass_24 rfl (lv_at hl 2 rfl) ?_
    refine lv_iload_n hx hb dX3_pass_25 rfl (lv_at hl 3 rfl) ?_
    refine lv_i2l (v := p0.toInt64) hx hb dX3_pass_26 rfl ?_
    refine lv_lconst (v := 0) hx hb dX3_pass_27 (by decide) ?_
    refine lv_iload_n hx hb dX3_pass_28 rfl (lv_at hl 1 rfl) ?_
    refine lv_iconst (v := 1) hx hb dX3_pass_29 (by decide) ?_
    refine lv_isub hx hb dX3_pass_30 ?_
    refine lv_i2l (v := (x_1 - 1).toInt64) hx hb dX3_pass_31 rfl ?_
    refine vp_callSi (va_Run.run (va_runS (As := [.long p0.toInt64, .long 0, .long ((x_1 - 1).toInt64)]) (rest := [.ref om]) ⟨hx, hb, hml, hown, hts⟩ (mX3_isIn l dC dI p0.toInt64 0 ((x_1 - 1).toInt64)) (va_cwS 3 hts (gS wd505 wd506 wd30 wd507) rfl rfl rfl (by decide +kernel) ⟨Nat.le_of_ble_eq_true rfl, Nat.le_of_ble_eq_true rfl⟩) ⟨fb_nw, pre_nw hZ⟩ rfl rfl hl.1 rfl (lv_room (Nat.le_of_ble_eq_true rfl)) dX3_pass_32 ⟨Nat.le_of_ble_eq_true rfl, Nat.le_of_ble_eq_true rfl⟩)) (fun r_5 hw_6 => ?_)
    refine lv_if_ne (tgt := 42) hx hb dX3_pass_35 (by decide) (fun c_35 => ?_) (fun c_35 => ?_)
    · refine lv_iload_n hx hb dX3_pass_42 rfl (lv_at hl 4 rfl) ?_
      refine lv_if_ge (tgt := 50) hx hb dX3_pass_43 (by decide) (fun c_43 => ?_) (fun c_43 => ?_)
      · refine lv_aload_n hx hb dX3_pass_50 rfl (lv_at hl 2 rfl) ?_
        refine va_get (D := (dC, dI)) (ci := 3) (v := .int km.2) (C := RX3) (T := TX3) (N := 19) hx hb hts inGX3 hown hK hP 0 rfl rfl 9 (by decide) (hts _ wd446) (fun _ h9 => h9) rfl dX3_pass_51 ?_
        refine lv_iload hx hb dX3_pass_54 (lv_at hl 0 rfl) ?_
        refine lv_iadd hx hb dX3_pass_56 ?_
        refine lv_sipush (v := 600) hx hb dX3_pass_57 (by decide) ?_
        refine lv_icmp_le (tgt := 67) hx hb dX3_pass_60 (by decide) (fun c_60 => ?_) (fun c_60 => ?_)
        · refine lv_iconst (v := 0) hx hb dX3_pass_67 (by decide) ?_
          exact kX3_pass_68 hx hb hr hml hown hts hlocks hA hZ hK  th bm km qm bd ym p0 p1 x_1 p1 0 (by first | exact fun h => absurd h (by decide) | exact fun _ => ps_of1 hW hC (by assumption) c_12 (by assumption) c_35 c_43 c_60 | exact fun _ => ps_of2 hW hC (by assumption) (by assumption) (by assumption) c_35 c_60) (plX3_pass_4 st lo th bm km qm bd ym p0 p1 _ ex_1 c_12 _ hw_6 c_35 c_43 c_60) _ _ (hP.sub (ws' := [(om, .inr (3, [.int th, .int st, .int lo, .ref ob, .int bm.2.1, .int bm.2.2.1, .int bm.2.2.2.1, .int bm.2.2.2.2, .ref ok, .int km.2, .int qm.1, .int qm.2.1, .int qm.2.2.1, .int qm.2.2.2, .int bd, .int ym.1, .int ym.2.1, .int ym.2.2.1, .int ym.2.2.2])), (ob, .inl (cZ, 5200, .inl bm.1)), (ok, .inl (cK, 600, .inl km.1))]) [0, 1, 2] rfl) (hD.sub (ws' := [(om, .inr (3, [.int th, .int st, .int lo, .ref ob, .int bm.2.1, .int bm.2.2.1, .int bm.2.2.2.1, .int bm.2.2.2.2, .ref ok, .int km.2, .int qm.1, .int qm.2.1, .int qm.2.2.1, .int qm.2.2.2, .int bd, .int ym.1, .int ym.2.1, .int ym.2.2.1, .int ym.2.2.2])), (ob, .inl (cZ, 5200, .inl bm.1)), (ok, .inl (cK, 600, .inl km.1))]) [0, 1, 2] (by decide) rfl) hS ls (lv_sub hl [2, 3, 4, 1, 0] rfl)
        · refine lv_iconst (v := 3) hx hb dX3_pass_63 (by decide) ?_
          refine lv_goto (tgt := 68) hx hb dX3_pass_64 (by decide) ?_
          exact kX3_pass_68 hx hb hr hml hown hts hlocks hA hZ hK  th bm km qm bd ym p0 p1 x_1 p1 3 (by first | exact fun h => absurd h (by decide) | exact fun _ => ps_of1 hW hC (by assumption) c_12 (by assumption) c_35 c_43 c_60 | exact fun _ => ps_of2 hW hC (by assumption) (by assumption) (by assumption) c_35 c_60) (plX3_pass_5 st lo th bm km qm bd ym p0 p1 _ ex_1 c_12 _ hw_6 c_35 c_43 c_60) _ _ (hP.sub (ws' := [(om, .inr (3, [.int th, .int st, .int lo, .ref ob, .int bm.2.1, .int bm.2.2.1, .int bm.2.2.2.1, .int bm.2.2.2.2, .ref ok, .int km.2, .int qm.1, .int qm.2.1, .int qm.2.2.1, .int qm.2.2.2, .int bd, .int ym.1, .int ym.2.1, .int ym.2.2.1, .int ym.2.2.2])), (ob, .inl (cZ, 5200, .inl bm.1)), (ok, .inl (cK, 600, .inl km.1))]) [0, 1, 2] rfl) (hD.sub (ws' := [(om, .inr (3, [.int th, .int st, .int lo, .ref ob, .int bm.2.1, .int bm.2.2.1, .int bm.2.2.2.1, .int bm.2.2.2.2, .ref ok, .int km.2, .int qm.1, .int qm.2.1, .int qm.2.2.1, .int qm.2.2.2, .int bd, .int ym.1, .int ym.2.1, .int ym.2.2.1, .int ym.2.2.2])), (ob, .inl (cZ, 5200, .inl bm.1)), (ok, .inl (cK, 600, .inl km.1))]) [0, 1, 2] (by decide) rfl) hS ls (lv_sub hl [2, 3, 4, 1, 0] rfl)
      · refine lv_iconst (v := 2) hx hb dX3_pass_46 (by decide) ?_
        refine lv_goto (tgt := 68) hx hb dX3_pass_47 (by decide) ?_
        exact kX3_pass_68 hx hb hr hml hown hts hlocks hA hZ hK  th bm km qm bd ym p0 p1 x_1 p1 2 (by first | exact fun h => absurd h (by decide) | exact fun _ => ps_of1 hW hC (by assumption) c_12 (by assumption) c_35 c_43 c_60 | exact fun _ => ps_of2 hW hC (by assumption) (by assumption) (by assumption) c_35 c_60) (plX3_pass_6 st lo th bm km qm bd ym p0 p1 _ ex_1 c_12 _ hw_6 c_35 c_43) _ _ (hP.sub (ws' := [(om, .inr (3, [.int th, .int st, .int lo, .ref ob, .int bm.2.1, .int bm.2.2.1, .int bm.2.2.2.1, .int bm.2.2.2.2, .ref ok, .int km.2, .int qm.1, .int qm.2.1, .int qm.2.2.1, .int qm.2.2.2, .int bd, .int ym.1, .int ym.2.1, .int ym.2.2.1, .int ym.2.2.2])), (ob, .inl (cZ, 5200, .inl bm.1)), (ok, .inl (cK, 600, .inl km.1))]) [0, 1, 2] rfl) (hD.sub (ws' := [(om, .inr (3, [.int th, .int st, .int lo, .ref ob, .int bm.2.1, .int bm.2.2.1, .int bm.2.2.2.1, .int bm.2.2.2.2, .ref ok, .int km.2, .int qm.1, .int qm.2.1, .int qm.2.2.1, .int qm.2.2.2, .int bd, .int ym.1, .int ym.2.1, .int ym.2.2.1, .int ym.2.2.2])), (ob, .inl (cZ, 5200, .inl bm.1)), (ok, .inl (cK, 600, .inl km.1))]) [0, 1, 2] (by decide) rfl) hS ls (lv_sub hl [2, 3, 4, 1, 0] rfl)
    · refine lv_iconst (v := 1) hx hb dX3_pass_38 (by decide) ?_
      refine lv_goto (tgt := 68) hx hb dX3_pass_39 (by decide) ?_
      exact kX3_pass_68 hx hb hr hml hown hts hlocks hA hZ hK  th bm km qm bd ym p0 p1 x_1 p1 1 (by first | exact fun h => absurd h (by decide) | exact fun _ => ps_of1 hW hC (by assumption) c_12 (by assumption) c_35 c_43 c_60 | exact fun _ => ps_of2 hW hC (by assumption) (by assumption) (by assumption) c_35 c_60) (plX3_pass_7 st lo th bm km qm bd ym p0 p1 _ ex_1 c_12 _ hw_6 c_35) _ _ (hP.sub (ws' := [(om, .inr (3, [.int th, .int st, .int lo, .ref ob, .int bm.2.1, .int bm.2.2.1, .int bm.2.2.2.1, .int bm.2.2.2.2, .ref ok, .int km.2, .int qm.1, .int qm.2.1, .int qm.2.2.1, .int qm.2.2.2, .int bd, .int ym.1, .int ym.2.1, .int ym.2.2.1, .int ym.2.2.2])), (ob, .inl (cZ, 5200, .inl bm.1)), (ok, .inl (cK, 600, .inl km.1))]) [0, 1, 2] rfl) (hD.sub (ws' := [(om, .inr (3, [.int th, .int st, .int lo, .ref ob, .int bm.2.1, .int bm.2.2.1, .int bm.2.2.2.1, .int bm.2.2.2.2, .ref ok, .int km.2, .int qm.1, .int qm.2.1, .int qm.2.2.1, .int qm.2.2.2, .int bd, .int ym.1, .int ym.2.1, .int ym.2.2.1, .int ym.2.2.2])), (ob, .inl (cZ, 5200, .inl bm.1)), (ok, .inl (cK, 600, .inl km.1))]) [0, 1, 2] (by decide) rfl) hS ls (lv_sub hl [2, 3, 4, 1, 0] rfl)
