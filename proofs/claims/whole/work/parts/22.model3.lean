/-- how far the row grows -/
def gw (a b : Bm) (d : Nat) : Prop := a.2.1.toInt ≤ b.2.1.toInt ∧ b.2.1.toInt ≤ a.2.1.toInt + d
theorem gw_wok {a b : Bm} {d k : Nat} (h : gw a b d) (hw : wok a (k + d)) : wok b k := by
  have h1 := h.1; have h2 := h.2; have h3 := hw.1; have h4 := hw.2
  exact ⟨by omega, by push_cast at h4; omega⟩
theorem gw_trans {a b c : Bm} {d e : Nat} (h : gw a b d) (h' : gw b c e) : gw a c (d + e) := by
  have h1 := h.1; have h2 := h.2; have h3 := h'.1; have h4 := h'.2
  exact ⟨by omega, by push_cast; omega⟩
theorem gw_mono {a b : Bm} {d e : Nat} (h : gw a b d) (hd : d ≤ e) : gw a b e := ⟨h.1, by have := h.2; omega⟩
theorem gw_rf {a : Bm} {d : Nat} : gw a a d := ⟨Int.le_refl _, by omega⟩
theorem gw_add {st lo th : Int32} {bm : Bm} {km : Rw} {qm : Tk} {bd : Int32} {ym : Tk} {x : Int32} (h : wok bm 1) : gw bm (FX3_add st lo th bm km qm bd ym x) 1 := by
  have e := w_1 h (add_w (st := st) (lo := lo) (th := th) (bm := bm) (km := km) (qm := qm) (bd := bd) (ym := ym) (x := x))
  exact ⟨by omega, by push_cast; omega⟩
theorem gw_stuff {st lo th : Int32} {bm : Bm} {km : Rw} {qm : Tk} {bd : Int32} {ym : Tk} (h : wok bm 1) : gw bm (FX3_stuff st lo th bm km qm bd ym) 1 := by
  have e := w_1 h (stuff_w (st := st) (lo := lo) (th := th) (bm := bm) (km := km) (qm := qm) (bd := bd) (ym := ym))
  exact ⟨by omega, by push_cast; omega⟩
theorem gw_102 {st lo th : Int32} {bm : Bm} {km : Rw} {qm : Tk} {bd : Int32} {ym : Tk} {x y : Int32} (h : wok bm 1) : gw bm (LX3_putBit_102 st lo th bm km qm bd ym x y).2 1 := by
  unfold LX3_putBit_102; dsimp only
  by_cases c : st ≤ 1
  · rw [if_pos c]; exact gw_rf
  · rw [if_neg c]
    by_cases d : bm.2.2.2.1 = st
    · rw [if_pos d]; exact gw_stuff (bm := (bm.1, bm.2.1, bm.2.2.1, 0, bm.2.2.2.2)) h
    · rw [if_neg d]; exact gw_rf
theorem gw_84 {st lo th : Int32} {bm : Bm} {km : Rw} {qm : Tk} {bd : Int32} {ym : Tk} {x y : Int32} (h : wok bm 1) : gw bm (LX3_putBit_84 st lo th bm km qm bd ym x y).2 1 := by
  unfold LX3_putBit_84; dsimp only
  by_cases c : x = 0
  · rw [if_pos c]; exact gw_102 (bm := (bm.1, bm.2.1, bm.2.2.1, 0, bm.2.2.2.2)) h
  · rw [if_neg c]; exact gw_102 (bm := (bm.1, bm.2.1, bm.2.2.1, bm.2.2.2.1 + 1, bm.2.2.2.2)) h
theorem gw_36 {st lo th : Int32} {bm : Bm} {km : Rw} {qm : Tk} {bd : Int32} {ym : Tk} {x : Int32} (h : wok bm 3) : gw bm (LX3_putBit_36 st lo th bm km qm bd ym x).2 3 := by
  have h1 : gw bm (FX3_add st lo th bm km qm bd ym x) 1 := gw_add (wok_mono h (by decide))
  have h2 : wok (FX3_add st lo th bm km qm bd ym x) 2 := wok_add h rfl
  unfold LX3_putBit_36; dsimp only
  generalize FX3_add st lo th bm km qm bd ym x = u at h1 h2 ⊢
  have h3 := gw_stuff (st := st) (lo := lo) (th := th) (km := km) (qm := qm) (bd := bd) (ym := ym) (wok_mono h2 (by decide : 1 ≤ 2))
  have h4 := wok_stuff (st := st) (lo := lo) (th := th) (km := km) (qm := qm) (bd := bd) (ym := ym) h2 rfl
  have k1 : gw bm (LX3_putBit_84 st lo th u km qm bd ym x bm.2.1).2 3 := gw_mono (gw_trans h1 (gw_84 (wok_mono h2 (by decide)))) (by decide)
  have k2 : gw bm (LX3_putBit_84 st lo th (FX3_stuff st lo th u km qm bd ym) km qm bd ym x bm.2.1).2 3 := gw_trans (gw_trans h1 h3) (gw_84 h4)
  generalize LX3_putBit_84 st lo th u km qm bd ym x bm.2.1 = z1 at k1 ⊢
  generalize LX3_putBit_84 st lo th (FX3_stuff st lo th u km qm bd ym) km qm bd ym x bm.2.1 = z2 at k2 ⊢
  repeat' split
  all_goals assumption
theorem gw_put {st lo th : Int32} {bm : Bm} {km : Rw} {qm : Tk} {bd : Int32} {ym : Tk} {x : Int32} (h : wok bm 4) : gw bm (FX3_putBit st lo th bm km qm bd ym x).2 4 := by
  have h3 := gw_stuff (st := st) (lo := lo) (th := th) (km := km) (qm := qm) (bd := bd) (ym := ym) (wok_mono h (by decide : 1 ≤ 4))
  have h4 := wok_stuff (st := st) (lo := lo) (th := th) (km := km) (qm := qm) (bd := bd) (ym := ym) h rfl
  have k1 : gw bm (LX3_putBit_36 st lo th bm km qm bd ym x).2 4 := gw_mono (gw_36 (wok_mono h (by decide))) (by decide)
  have k2 : gw bm (LX3_putBit_36 st lo th (FX3_stuff st lo th bm km qm bd ym) km qm bd ym x).2 4 := gw_trans h3 (gw_36 h4)
  unfold FX3_putBit; dsimp only
  generalize LX3_putBit_36 st lo th bm km qm bd ym x = z1 at k1 ⊢
  generalize LX3_putBit_36 st lo th (FX3_stuff st lo th bm km qm bd ym) km qm bd ym x = z2 at k2 ⊢
  repeat' split
  all_goals assumption
theorem gw_putE {st lo th : Int32} {bm : Bm} {km : Rw} {qm : Tk} {bd : Int32} {ym : Tk} {u : Bm} {x r : Int32} (h : wok bm 4) (e : (r, u) = FX3_putBit st lo th bm km qm bd ym x) : gw bm u 4 := by
  have q := gw_put (st := st) (lo := lo) (th := th) (km := km) (qm := qm) (bd := bd) (ym := ym) (x := x) h
  rw [← e] at q; exact q
/-- the whole numbers in a range, as the reference asks it -/
theorem lcmp_nlt {x y : Int64} : ¬ lg_cmp x y < 0 ↔ y ≤ x := by
  unfold lg_cmp; rw [Int64.le_iff_toInt_le]
  by_cases h : y < x
  · rw [if_pos h]; rw [Int64.lt_iff_toInt_lt] at h; constructor
    · intro _; omega
    · intro _; decide
  · rw [if_neg h]; rw [Int64.lt_iff_toInt_lt] at h
    by_cases h2 : x = y
    · rw [if_pos h2, h2]; simp
    · rw [if_neg h2]
      have h3 : x.toInt ≠ y.toInt := fun q => h2 (Int64.toInt_inj.mp q)
      constructor
      · intro q; exact absurd (by decide) q
      · intro q; omega
theorem lcmp_ngt {x y : Int64} : ¬ 0 < lg_cmp x y ↔ x ≤ y := by
  unfold lg_cmp; rw [Int64.le_iff_toInt_le]
  by_cases h : y < x
  · rw [if_pos h]; rw [Int64.lt_iff_toInt_lt] at h; constructor
    · intro q; exact absurd (by decide) q
    · intro q; omega
  · rw [if_neg h]; rw [Int64.lt_iff_toInt_lt] at h
    by_cases h2 : x = y
    · rw [if_pos h2, h2]; simp
    · rw [if_neg h2]
      have h3 : x.toInt ≠ y.toInt := fun q => h2 (Int64.toInt_inj.mp q)
      constructor
      · intro _; omega
      · intro _; decide
theorem isIn_iff {x a b : Int64} : ¬ FX3_isIn x a b = 0 ↔ a.toInt ≤ x.toInt ∧ x.toInt ≤ b.toInt := by
  unfold FX3_isIn
  by_cases h : lg_cmp x a < 0
  · rw [if_pos h]
    constructor
    · intro q; exact absurd rfl q
    · intro q; exact absurd h (lcmp_nlt.mpr (Int64.le_iff_toInt_le.mpr q.1))
  · rw [if_neg h]
    by_cases h2 : 0 < lg_cmp x b
    · rw [if_pos h2]
      constructor
      · intro q; exact absurd rfl q
      · intro q; exact absurd h2 (lcmp_ngt.mpr (Int64.le_iff_toInt_le.mpr q.2))
    · rw [if_neg h2]
      constructor
      · intro _; exact ⟨Int64.le_iff_toInt_le.mp (lcmp_nlt.mp h), Int64.le_iff_toInt_le.mp (lcmp_ngt.mp h2)⟩
      · intro _; decide
theorem i2lI (x : Int32) : x.toInt64.toInt = x.toInt := Int32.toInt_toInt64 x
theorem in32 {x r : Int32} (e : r = FX3_isIn x.toInt64 1 32) (h : ¬ r = 0) : 1 ≤ x.toInt ∧ x.toInt ≤ 32 := by
  rw [e, isIn_iff, i2lI] at h; exact h
/-- the reference's loop that fills a byte ends, with room left -/
def alC (st : Int32) (bm : Bm) : Prop := ¬ (bm.2.1 - bm.2.1 / 8 * 8 = 0) ∨ (st = 1 ∧ ¬ bm.2.2.2.2 = 0)
def alE (st lo : Int32) : Nat → Int32 → Bm → Rw → Tk → Int32 → Tk → Prop
  | 0, _, _, _, _, _, _ => False
  | n + 1, th, bm, km, qm, bd, ym => wok bm 40 ∧ (alC st bm → alE st lo n th (FX3_putBit st lo th bm km qm bd ym 0).2 km qm bd ym)
theorem al_back {st lo th : Int32} {bm : Bm} {km : Rw} {qm : Tk} {bd : Int32} {ym : Tk} {n : Nat} {u : Bm} {r : Int32} (h : alE st lo (n + 1) th bm km qm bd ym) (c : alC st bm) (e : (r, u) = FX3_putBit st lo th bm km qm bd ym 0) : alE st lo n th u km qm bd ym := by
  have q := h.2 c; rw [← e] at q; exact q
def plOk (bm : Bm) (k : Int32) : Prop := 0 ≤ k.toInt ∧ k.toInt ≤ 32 ∧ wokI bm (4 * (32 - k.toInt) + 40)
theorem pl_wok {bm : Bm} {k p : Int32} (h : plOk bm k) (hp : p.toInt ≤ 32) (c : ¬ p ≤ k) : wok bm 4 := by
  obtain ⟨h1, h2, h3, h4⟩ := h
  rw [leI] at c
  exact ⟨h3, by omega⟩
theorem pl_back {st lo th : Int32} {bm : Bm} {km : Rw} {qm : Tk} {bd : Int32} {ym : Tk} {u : Bm} {k k' p x r : Int32} (h : plOk bm k) (hp : p.toInt ≤ 32) (c : ¬ p ≤ k) (e : (r, u) = FX3_putBit st lo th bm km qm bd ym x) (ek : k' = k + 1) : plOk u k' := by
  have g := gw_putE (pl_wok h hp c) e
  obtain ⟨h1, h2, h3, h4⟩ := h
  have g1 := g.1; have g2 := g.2
  have c' := nle_lt c
  rw [leI] at c
  have e1 : k'.toInt = k.toInt + 1 := by rw [ek]; exact i1 c'
  exact ⟨by omega, by omega, by omega, by omega⟩
def LX3_put_47 (st : Int32) (lo : Int32) : Nat → Int32 → Bm → Rw → Tk → Int32 → Tk → Int32 → Int32 → Int32 → Int32 → Int32 × Int32 × Bm
  | 0, th, bm, km, qm, bd, ym, p0, p1, pl, k => (0, th, bm)
  | n + 1, th, bm, km, qm, bd, ym, p0, p1, pl, k =>
    if p0 ≤ k then
      (pl, th, bm)
    else
      if lo = 0 then
        if (((p1.toUInt32 >>> (((p0 - 1) - k).toUInt32 &&& Int32.toUInt32 31)).toInt32) &&& 1) = 1 then
          let zhw_7 := FX3_putBit st lo th bm km qm bd ym 1
          let r_6 := zhw_7.1
          let u_8 := zhw_7.2
          if k = 0 then
            let i_10 := k + 1
            LX3_put_47 st lo n th u_8 km qm bd ym p0 p1 r_6 i_10
          else
            let i_9 := k + 1
            LX3_put_47 st lo n th u_8 km qm bd ym p0 p1 pl i_9
        else
          let zhw_2 := FX3_putBit st lo th bm km qm bd ym 0
          let r_1 := zhw_2.1
          let u_3 := zhw_2.2
          if k = 0 then
            let i_5 := k + 1
            LX3_put_47 st lo n th u_3 km qm bd ym p0 p1 r_1 i_5
          else
            let i_4 := k + 1
            LX3_put_47 st lo n th u_3 km qm bd ym p0 p1 pl i_4
      else
        if (((p1.toUInt32 >>> (k.toUInt32 &&& Int32.toUInt32 31)).toInt32) &&& 1) = 1 then
          let zhw_17 := FX3_putBit st lo th bm km qm bd ym 1
          let r_16 := zhw_17.1
          let u_18 := zhw_17.2
          if k = 0 then
            let i_20 := k + 1
            LX3_put_47 st lo n th u_18 km qm bd ym p0 p1 r_16 i_20
          else
            let i_19 := k + 1
            LX3_put_47 st lo n th u_18 km qm bd ym p0 p1 pl i_19
        else
          let zhw_12 := FX3_putBit st lo th bm km qm bd ym 0
          let r_11 := zhw_12.1
          let u_13 := zhw_12.2
          if k = 0 then
            let i_15 := k + 1
            LX3_put_47 st lo n th u_13 km qm bd ym p0 p1 r_11 i_15
          else
            let i_14 := k + 1
            LX3_put_47 st lo n th u_13 km qm bd ym p0 p1 pl i_14
def LX3_put_30 (st : Int32) (lo : Int32) (th : Int32) (bm : Bm) (km : Rw) (qm : Tk) (bd : Int32) (ym : Tk) (p0 : Int32) (p1 : Int32) (v : Int32) : Int32 × Int32 × Bm :=
  if v ≤ 0 then
    LX3_put_47 st lo (fz 0 p0) v bm km qm bd ym p0 p1 0 0
  else
    (0, v, bm)
def FX3_put (st : Int32) (lo : Int32) (th : Int32) (bm : Bm) (km : Rw) (qm : Tk) (bd : Int32) (ym : Tk) (p0 : Int32) (p1 : Int32) : Int32 × Int32 × Bm :=
  let r_1 := FX3_isIn p0.toInt64 1 32
  if r_1 = 0 then
    LX3_put_30 st lo th bm km qm bd ym p0 p1 1
  else
    let r_3 := FX3_isFull st lo th bm km qm bd ym p0
    if r_3 = 0 then
      LX3_put_30 st lo th bm km qm bd ym p0 p1 0
    else
      LX3_put_30 st lo th bm km qm bd ym p0 p1 2
set_option maxRecDepth 100000 in
theorem plX3_put_l47_0 (st : Int32) (lo : Int32) (n : Nat) (th : Int32) (bm : Bm) (km : Rw) (qm : Tk) (bd : Int32) (ym : Tk) (p0 : Int32) (p1 : Int32) (pl : Int32) (k : Int32) (c_50 : p0 ≤ k) : (pl, th, bm) = LX3_put_47 st lo (n + 1) th bm km qm bd ym p0 p1 pl k := by
  exact (if_pos c_50).symm
set_option maxRecDepth 100000 in
theorem plX3_put_l47_1 (st : Int32) (lo : Int32) (n : Nat) (th : Int32) (bm : Bm) (km : Rw) (qm : Tk) (bd : Int32) (ym : Tk) (p0 : Int32) (p1 : Int32) (pl : Int32) (k : Int32) (c_50 : ¬ (p0 ≤ k)) (c_59 : lo = 0) (c_77 : ¬ ((((p1.toUInt32 >>> (((p0 - 1) - k).toUInt32 &&& Int32.toUInt32 31)).toInt32) &&& 1) = 1)) (r_1 : Int32) (u_3 : Bm) (hw_2 : (r_1, u_3) = FX3_putBit st lo th bm km qm bd ym 0) (c_92 : ¬ (k = 0)) (i_4 : Int32) (ei_4 : i_4 = k + 1) : LX3_put_47 st lo n th u_3 km qm bd ym p0 p1 pl i_4 = LX3_put_47 st lo (n + 1) th bm km qm bd ym p0 p1 pl k := by
  have q0 := congrArg (fun z => z.1) hw_2
  have q1 := congrArg (fun z => z.2) hw_2
  dsimp only at q0 q1
  subst q0
  subst q1
  clear hw_2
  subst ei_4
  exact ((((if_neg c_50).trans (if_pos c_59)).trans (if_neg c_77)).trans (if_neg c_92)).symm
set_option maxRecDepth 100000 in
theorem plX3_put_l47_2 (st : Int32) (lo : Int32) (n : Nat) (th : Int32) (bm : Bm) (km : Rw) (qm : Tk) (bd : Int32) (ym : Tk) (p0 : Int32) (p1 : Int32) (pl : Int32) (k : Int32) (c_50 : ¬ (p0 ≤ k)) (c_59 : lo = 0) (c_77 : ¬ ((((p1.toUInt32 >>> (((p0 - 1) - k).toUInt32 &&& Int32.toUInt32 31)).toInt32) &&& 1) = 1)) (r_1 : Int32) (u_3 : Bm) (hw_2 : (r_1, u_3) = FX3_putBit st lo th bm km qm bd ym 0) (c_92 : k = 0) (i_5 : Int32) (ei_5 : i_5 = k + 1) : LX3_put_47 st lo n th u_3 km qm bd ym p0 p1 r_1 i_5 = LX3_put_47 st lo (n + 1) th bm km qm bd ym p0 p1 pl k := by
  have q0 := congrArg (fun z => z.1) hw_2
  have q1 := congrArg (fun z => z.2) hw_2
  dsimp only at q0 q1
  subst q0
  subst q1
  clear hw_2
  subst ei_5
  exact ((((if_neg c_50).trans (if_pos c_59)).trans (if_neg c_77)).trans (if_pos c_92)).symm
set_option maxRecDepth 100000 in
theorem plX3_put_l47_3 (st : Int32) (lo : Int32) (n : Nat) (th : Int32) (bm : Bm) (km : Rw) (qm : Tk) (bd : Int32) (ym : Tk) (p0 : Int32) (p1 : Int32) (pl : Int32) (k : Int32) (c_50 : ¬ (p0 ≤ k)) (c_59 : lo = 0) (c_77 : (((p1.toUInt32 >>> (((p0 - 1) - k).toUInt32 &&& Int32.toUInt32 31)).toInt32) &&& 1) = 1) (r_6 : Int32) (u_8 : Bm) (hw_7 : (r_6, u_8) = FX3_putBit st lo th bm km qm bd ym 1) (c_92 : ¬ (k = 0)) (i_9 : Int32) (ei_9 : i_9 = k + 1) : LX3_put_47 st lo n th u_8 km qm bd ym p0 p1 pl i_9 = LX3_put_47 st lo (n + 1) th bm km qm bd ym p0 p1 pl k := by
  have q0 := congrArg (fun z => z.1) hw_7
  have q1 := congrArg (fun z => z.2) hw_7
  dsimp only at q0 q1
  subst q0
  subst q1
  clear hw_7
  subst ei_9
  exact ((((if_neg c_50).trans (if_pos c_59)).trans (if_pos c_77)).trans (if_neg c_92)).symm
set_option maxRecDepth 100000 in
theorem plX3_put_l47_4 (st : Int32) (lo : Int32) (n : Nat) (th : Int32) (bm : Bm) (km : Rw) (qm : Tk) (bd : Int32) (ym : Tk) (p0 : Int32) (p1 : Int32) (pl : Int32) (k : Int32) (c_50 : ¬ (p0 ≤ k)) (c_59 : lo = 0) (c_77 : (((p1.toUInt32 >>> (((p0 - 1) - k).toUInt32 &&& Int32.toUInt32 31)).toInt32) &&& 1) = 1) (r_6 : Int32) (u_8 : Bm) (hw_7 : (r_6, u_8) = FX3_putBit st lo th bm km qm bd ym 1) (c_92 : k = 0) (i_10 : Int32) (ei_10 : i_10 = k + 1) : LX3_put_47 st lo n th u_8 km qm bd ym p0 p1 r_6 i_10 = LX3_put_47 st lo (n + 1) th bm km qm bd ym p0 p1 pl k := by
  have q0 := congrArg (fun z => z.1) hw_7
  have q1 := congrArg (fun z => z.2) hw_7
  dsimp only at q0 q1
  subst q0
  subst q1
  clear hw_7
  subst ei_10
  exact ((((if_neg c_50).trans (if_pos c_59)).trans (if_pos c_77)).trans (if_pos c_92)).symm
set_option maxRecDepth 100000 in
theorem plX3_put_l47_5 (st : Int32) (lo : Int32) (n : Nat) (th : Int32) (bm : Bm) (km : Rw) (qm : Tk) (bd : Int32) (ym : Tk) (p0 : Int32) (p1 : Int32) (pl : Int32) (k : Int32) (c_50 : ¬ (p0 ≤ k)) (c_59 : ¬ (lo = 0)) (c_77 : ¬ ((((p1.toUInt32 >>> (k.toUInt32 &&& Int32.toUInt32 31)).toInt32) &&& 1) = 1)) (r_11 : Int32) (u_13 : Bm) (hw_12 : (r_11, u_13) = FX3_putBit st lo th bm km qm bd ym 0) (c_92 : ¬ (k = 0)) (i_14 : Int32) (ei_14 : i_14 = k + 1) : LX3_put_47 st lo n th u_13 km qm bd ym p0 p1 pl i_14 = LX3_put_47 st lo (n + 1) th bm km qm bd ym p0 p1 pl k := by
  have q0 := congrArg (fun z => z.1) hw_12
  have q1 := congrArg (fun z => z.2) hw_12
  dsimp only at q0 q1
  subst q0
  subst q1
  clear hw_12
  subst ei_14
  exact ((((if_neg c_50).trans (if_neg c_59)).trans (if_neg c_77)).trans (if_neg c_92)).symm
set_option maxRecDepth 100000 in
theorem plX3_put_l47_6 (st : Int32) (lo : Int32) (n : Nat) (th : Int32) (bm : Bm) (km : Rw) (qm : Tk) (bd : Int32) (ym : Tk) (p0 : Int32) (p1 : Int32) (pl : Int32) (k : Int32) (c_50 : ¬ (p0 ≤ k)) (c_59 : ¬ (lo = 0)) (c_77 : ¬ ((((p1.toUInt32 >>> (k.toUInt32 &&& Int32.toUInt32 31)).toInt32) &&& 1) = 1)) (r_11 : Int32) (u_13 : Bm) (hw_12 : (r_11, u_13) = FX3_putBit st lo th bm km qm bd ym 0) (c_92 : k = 0) (i_15 : Int32) (ei_15 : i_15 = k + 1) : LX3_put_47 st lo n th u_13 km qm bd ym p0 p1 r_11 i_15 = LX3_put_47 st lo (n + 1) th bm km qm bd ym p0 p1 pl k := by
  have q0 := congrArg (fun z => z.1) hw_12
  have q1 := congrArg (fun z => z.2) hw_12
  dsimp only at q0 q1
  subst q0
  subst q1
  clear hw_12
  subst ei_15
  exact ((((if_neg c_50).trans (if_neg c_59)).trans (if_neg c_77)).trans (if_pos c_92)).symm
set_option maxRecDepth 100000 in
theorem plX3_put_l47_7 (st : Int32) (lo : Int32) (n : Nat) (th : Int32) (bm : Bm) (km : Rw) (qm : Tk) (bd : Int32) (ym : Tk) (p0 : Int32) (p1 : Int32) (pl : Int32) (k : Int32) (c_50 : ¬ (p0 ≤ k)) (c_59 : ¬ (lo = 0)) (c_77 : (((p1.toUInt32 >>> (k.toUInt32 &&& Int32.toUInt32 31)).toInt32) &&& 1) = 1) (r_16 : Int32) (u_18 : Bm) (hw_17 : (r_16, u_18) = FX3_putBit st lo th bm km qm bd ym 1) (c_92 : ¬ (k = 0)) (i_19 : Int32) (ei_19 : i_19 = k + 1) : LX3_put_47 st lo n th u_18 km qm bd ym p0 p1 pl i_19 = LX3_put_47 st lo (n + 1) th bm km qm bd ym p0 p1 pl k := by
  have q0 := congrArg (fun z => z.1) hw_17
  have q1 := congrArg (fun z => z.2) hw_17
  dsimp only at q0 q1
  subst q0
  subst q1
  clear hw_17
  subst ei_19
  exact ((((if_neg c_50).trans (if_neg c_59)).trans (if_pos c_77)).trans (if_neg c_92)).symm
set_option maxRecDepth 100000 in
theorem plX3_put_l47_8 (st : Int32) (lo : Int32) (n : Nat) (th : Int32) (bm : Bm) (km : Rw) (qm : Tk) (bd : Int32) (ym : Tk) (p0 : Int32) (p1 : Int32) (pl : Int32) (k : Int32) (c_50 : ¬ (p0 ≤ k)) (c_59 : ¬ (lo = 0)) (c_77 : (((p1.toUInt32 >>> (k.toUInt32 &&& Int32.toUInt32 31)).toInt32) &&& 1) = 1) (r_16 : Int32) (u_18 : Bm) (hw_17 : (r_16, u_18) = FX3_putBit st lo th bm km qm bd ym 1) (c_92 : k = 0) (i_20 : Int32) (ei_20 : i_20 = k + 1) : LX3_put_47 st lo n th u_18 km qm bd ym p0 p1 r_16 i_20 = LX3_put_47 st lo (n + 1) th bm km qm bd ym p0 p1 pl k := by
  have q0 := congrArg (fun z => z.1) hw_17
  have q1 := congrArg (fun z => z.2) hw_17
  dsimp only at q0 q1
  subst q0
  subst q1
  clear hw_17
  subst ei_20
  exact ((((if_neg c_50).trans (if_neg c_59)).trans (if_pos c_77)).trans (if_pos c_92)).symm
set_option maxRecDepth 100000 in
theorem plX3_put_l30_0 (st : Int32) (lo : Int32) (th : Int32) (bm : Bm) (km : Rw) (qm : Tk) (bd : Int32) (ym : Tk) (p0 : Int32) (p1 : Int32) (v : Int32) (c_37 : v ≤ 0) : LX3_put_47 st lo (fz 0 p0) v bm km qm bd ym p0 p1 0 0 = LX3_put_30 st lo th bm km qm bd ym p0 p1 v := by
  exact (if_pos c_37).symm
set_option maxRecDepth 100000 in
theorem plX3_put_l30_1 (st : Int32) (lo : Int32) (th : Int32) (bm : Bm) (km : Rw) (qm : Tk) (bd : Int32) (ym : Tk) (p0 : Int32) (p1 : Int32) (v : Int32) (c_37 : ¬ (v ≤ 0)) : (0, v, bm) = LX3_put_30 st lo th bm km qm bd ym p0 p1 v := by
  exact (if_neg c_37).symm
set_option maxRecDepth 100000 in
theorem plX3_put_0 (st : Int32) (lo : Int32) (th : Int32) (bm : Bm) (km : Rw) (qm : Tk) (bd : Int32) (ym : Tk) (p0 : Int32) (p1 : Int32) (r_1 : Int32) (hw_2 : r_1 = FX3_isIn p0.toInt64 1 32) (c_10 : ¬ (r_1 = 0)) (r_3 : Int32) (hw_4 : r_3 = FX3_isFull st lo th bm km qm bd ym p0) (c_22 : r_3 = 0) : LX3_put_30 st lo th bm km qm bd ym p0 p1 0 = FX3_put st lo th bm km qm bd ym p0 p1 := by
  subst hw_2
  subst hw_4
  exact ((if_neg c_10).trans (if_pos c_22)).symm
set_option maxRecDepth 100000 in
theorem plX3_put_1 (st : Int32) (lo : Int32) (th : Int32) (bm : Bm) (km : Rw) (qm : Tk) (bd : Int32) (ym : Tk) (p0 : Int32) (p1 : Int32) (r_1 : Int32) (hw_2 : r_1 = FX3_isIn p0.toInt64 1 32) (c_10 : ¬ (r_1 = 0)) (r_3 : Int32) (hw_4 : r_3 = FX3_isFull st lo th bm km qm bd ym p0) (c_22 : ¬ (r_3 = 0)) : LX3_put_30 st lo th bm km qm bd ym p0 p1 2 = FX3_put st lo th bm km qm bd ym p0 p1 := by
  subst hw_2
  subst hw_4
  exact ((if_neg c_10).trans (if_neg c_22)).symm
set_option maxRecDepth 100000 in
theorem plX3_put_2 (st : Int32) (lo : Int32) (th : Int32) (bm : Bm) (km : Rw) (qm : Tk) (bd : Int32) (ym : Tk) (p0 : Int32) (p1 : Int32) (r_1 : Int32) (hw_2 : r_1 = FX3_isIn p0.toInt64 1 32) (c_10 : r_1 = 0) : LX3_put_30 st lo th bm km qm bd ym p0 p1 1 = FX3_put st lo th bm km qm bd ym p0 p1 := by
  subst hw_2
  exact (if_pos c_10).symm
set_option maxHeartbeats 4000000 in
set_option maxRecDepth 100000 in
theorem kX3_put_47 {p : Program} {l : Launch} {e : Env} {s : State} {m : MethodId} {args : Array Value} {below : List Frame} {meth : Method} {c : Code} {dC : Nat → ClassId} {dI : Nat → Nat → Nat} {cZ cK : ClassId} {om ob ok : Nat} {st : Int32} {lo : Int32} {z : Int32 × Int32 × Bm} {A : Nat → Prop} (hx : p.tables.exec = Jvm.exec) (hb : c.code = cX3_put) (hr : meth.sig.returnType = (some .int)) (hml : c.maxLocals = 6) (hown : s.vm.findClass RX3 = some m.cls) (hts : ∀ w ∈ G, w.before args s = true) (hlocks : meth.locks = false) (hA : ∀ q : Nat, s.heap.size ≤ q → A q) (hZ : zOk s) (hK : va_K (dC, dI) vwCl [(cZ, .boolean), (cK, .int)] s) : ∀ (n : Nat) (th : Int32) (bm : Bm) (km : Rw) (qm : Tk) (bd : Int32) (ym : Tk) (p0 : Int32) (p1 : Int32) (pl : Int32) (k : Int32), (fuel n k p0) → (p0.toInt ≤ 32) → (plOk bm k) → LX3_put_47 st lo n th bm km qm bd ym p0 p1 pl k = z → ∀ (H : Heap) (locs : List Loc), va_P (dC, dI) vwCl [(om, .inr (3, [.int th, .int st, .int lo, .ref ob, .int bm.2.1, .int bm.2.2.1, .int bm.2.2.2.1, .int bm.2.2.2.2, .ref ok, .int km.2, .int qm.1, .int qm.2.1, .int qm.2.2.1, .int qm.2.2.2, .int bd, .int ym.1, .int ym.2.1, .int ym.2.2.1, .int ym.2.2.2])), (ob, .inl (cZ, 5200, .inl bm.1)), (ok, .inl (cK, 600, .inl km.1))] H → va_D A [(om, .inr (3, [.int th, .int st, .int lo, .ref ob, .int bm.2.1, .int bm.2.2.1, .int bm.2.2.2.1, .int bm.2.2.2.2, .ref ok, .int km.2, .int qm.1, .int qm.2.1, .int qm.2.2.1, .int qm.2.2.2, .int bd, .int ym.1, .int ym.2.1, .int ym.2.2.1, .int ym.2.2.2])), (ob, .inl (cZ, 5200, .inl bm.1)), (ok, .inl (cK, 600, .inl km.1))] → va_S A s.heap H locs → ∀ (ls : Array Slot), lv_has ls 6 [(0, .ref om), (1, .int p0), (2, .int p1), (3, .int pl), (4, .int k)] → W p l e (headSpec (Cond.code yX3_put cX3_put 6 (some .int) :: G) ({ frames := 4, cells := 0, slots := 0, locals := 88 } : Room)).room s m args below meth c H locs 0 0 (MQ below (va_Qi (fun (r : Int32) (u : Int32 × Bm) => (r, u) = z) (fun (u : Int32 × Bm) (t : State) => va_P (dC, dI) vwCl [(om, .inr (3, [.int u.1, .int st, .int lo, .ref ob, .int u.2.2.1, .int u.2.2.2.1, .int u.2.2.2.2.1, .int u.2.2.2.2.2, .ref ok, .int km.2, .int qm.1, .int qm.2.1, .int qm.2.2.1, .int qm.2.2.2, .int bd, .int ym.1, .int ym.2.1, .int ym.2.2.1, .int ym.2.2.2])), (ob, .inl (cZ, 5200, .inl u.2.1)), (ok, .inl (cK, 600, .inl km.1))] t.heap ∧ va_D A [(om, .inr (3, [.int u.1, .int st, .int lo, .ref ob, .int u.2.2.1, .int u.2.2.2.1, .int u.2.2.2.2.1, .int u.2.2.2.2.2, .ref ok, .int km.2, .int qm.1, .int qm.2.1, .int qm.2.2.1, .int qm.2.2.2, .int bd, .int ym.1, .int ym.2.1, .int ym.2.2.1, .int ym.2.2.2])), (ob, .inl (cZ, 5200, .inl u.2.1)), (ok, .inl (cK, 600, .inl km.1))]) A) args s 0 0 A) (F0 m 47 ls []) := by
  intro n
  induction n with
  | zero =>
    intro th bm km qm bd ym p0 p1 pl k hf hm hP0 hz
    exact absurd hf.1 (Nat.lt_irrefl 0)
  | succ n ih =>
    intro th bm km qm bd ym p0 p1 pl k hf hm hP0 hz H locs hP hD hS ls hl
    refine lv_iload hx hb dX3_put_47 (lv_at hl 4 rfl) ?_
    refine lv_iload_n hx hb dX3_put_49 rfl (lv_at hl 1 rfl) ?_
    refine lv_icmp_ge (tgt := 108) hx hb dX3_put_50 (by decide) (fun c_50 => ?_) (fun c_50 => ?_)
    · refine lv_iload_n hx hb dX3_put_108 rfl (lv_at hl 3 rfl) ?_
      have hP9 := hP.sub (ws' := [(om, .inr (3, [.int th, .int st, .int lo, .ref ob, .int bm.2.1, .int bm.2.2.1, .int bm.2.2.2.1, .int bm.2.2.2.2, .ref ok, .int km.2, .int qm.1, .int qm.2.1, .int qm.2.2.1, .int qm.2.2.2, .int bd, .int ym.1, .int ym.2.1, .int ym.2.2.1, .int ym.2.2.2])), (ob, .inl (cZ, 5200, .inl bm.1)), (ok, .inl (cK, 600, .inl km.1))]) [0, 1, 2] rfl
      have hD9 := hD.sub (ws' := [(om, .inr (3, [.int th, .int st, .int lo, .ref ob, .int bm.2.1, .int bm.2.2.1, .int bm.2.2.2.1, .int bm.2.2.2.2, .ref ok, .int km.2, .int qm.1, .int qm.2.1, .int qm.2.2.1, .int qm.2.2.2, .int bd, .int ym.1, .int ym.2.1, .int ym.2.2.1, .int ym.2.2.2])), (ob, .inl (cZ, 5200, .inl bm.1)), (ok, .inl (cK, 600, .inl km.1))]) [0, 1, 2] (by decide) rfl
      exact W.iret (v := pl) hx hb hr (fun t ht hW => ⟨⟨pl, (th, bm), rfl, ((plX3_put_l47_0 st lo n th bm km qm bd ym p0 p1 pl k c_50).trans hz), by rw [ht]; exact hP9, hD9⟩, hS.F ht⟩) hS.2.2 dX3_put_109
    · refine lv_aload_n hx hb dX3_put_53 rfl (lv_at hl 0 rfl) ?_
      refine lv_iload_n hx hb dX3_put_54 rfl (lv_at hl 2 rfl) ?_
      refine lv_aload_n hx hb dX3_put_55 rfl (lv_at hl 0 rfl) ?_
      refine va_get (D := (dC, dI)) (ci := 3) (v := .int lo) (C := RX3) (T := TX3) (N := 19) hx hb hts inGX3 hown hK hP 0 rfl rfl 2 (by decide) (hts _ wd439) (fun _ h9 => h9) rfl dX3_put_56 ?_
      refine lv_if_eq (tgt := 67) hx hb dX3_put_59 (by decide) (fun c_59 => ?_) (fun c_59 => ?_)
      · refine lv_iload_n hx hb dX3_put_67 rfl (lv_at hl 1 rfl) ?_
        refine lv_iconst (v := 1) hx hb dX3_put_68 (by decide) ?_
        refine lv_isub hx hb dX3_put_69 ?_
        refine lv_iload hx hb dX3_put_70 (lv_at hl 4 rfl) ?_
        refine lv_isub hx hb dX3_put_72 ?_
        refine lv_iushr (v := (p1.toUInt32 >>> (((p0 - 1) - k).toUInt32 &&& Int32.toUInt32 31)).toInt32) hx hb dX3_put_73 rfl ?_
        refine lv_iconst (v := 1) hx hb dX3_put_74 (by decide) ?_
        refine lv_iand hx hb dX3_put_75 ?_
        refine lv_iconst (v := 1) hx hb dX3_put_76 (by decide) ?_
        refine lv_icmp_ne (tgt := 84) hx hb dX3_put_77 (by decide) (fun c_77 => ?_) (fun c_77 => ?_)
        · refine lv_iconst (v := 0) hx hb dX3_put_84 (by decide) ?_
          have hPc := hP.sub (ws' := [(om, .inr (3, [.int th, .int st, .int lo, .ref ob, .int bm.2.1, .int bm.2.2.1, .int bm.2.2.2.1, .int bm.2.2.2.2, .ref ok, .int km.2, .int qm.1, .int qm.2.1, .int qm.2.2.1, .int qm.2.2.2, .int bd, .int ym.1, .int ym.2.1, .int ym.2.2.1, .int ym.2.2.2])), (ob, .inl (cZ, 5200, .inl bm.1)), (ok, .inl (cK, 600, .inl km.1))]) [0, 1, 2] rfl
          have hKc := hK.sub (tys' := [(cZ, .boolean), (cK, .int)]) [0, 1] rfl
          have hDc := hD.sub (ws' := [(om, .inr (3, [.int th, .int st, .int lo, .ref ob, .int bm.2.1, .int bm.2.2.1, .int bm.2.2.2.1, .int bm.2.2.2.2, .ref ok, .int km.2, .int qm.1, .int qm.2.1, .int qm.2.2.1, .int qm.2.2.2, .int bd, .int ym.1, .int ym.2.1, .int ym.2.2.1, .int ym.2.2.2])), (ob, .inl (cZ, 5200, .inl bm.1)), (ok, .inl (cK, 600, .inl km.1))]) [0, 1, 2] (by decide) rfl
          have hFc := va_free (wc := [(om, .inr (3, [.int th, .int st, .int lo, .ref ob, .int bm.2.1, .int bm.2.2.1, .int bm.2.2.2.1, .int bm.2.2.2.2, .ref ok, .int km.2, .int qm.1, .int qm.2.1, .int qm.2.2.1, .int qm.2.2.2, .int bd, .int ym.1, .int ym.2.1, .int ym.2.2.1, .int ym.2.2.2])), (ob, .inl (cZ, 5200, .inl bm.1)), (ok, .inl (cK, 600, .inl km.1))]) hD hS hA [0, 1, 2] rfl
          refine va_calli (va_runV (As := [.int 0]) (rest := []) ⟨hx, hb, hml, hown, hts⟩ (mX3_putBit l dC dI cZ cK om ob ok H.size st lo th bm km qm bd ym 0 (pl_wok hP0 hm c_50)) (cwV 1 hts (gV wd511 wd512 wd12 wd30 wd513) rfl rfl rfl (by decide +kernel) ⟨Nat.le_of_ble_eq_true rfl, Nat.le_of_ble_eq_true rfl⟩) ⟨fb_rw, va_recv hKc hPc (ci := 3) (q0 := 0) rfl rfl, pre_rw hPc hKc hDc hZ⟩ rfl rfl hl.1 rfl (lv_room (Nat.le_of_ble_eq_true rfl)) dX3_put_85 ⟨Nat.le_of_ble_eq_true rfl, Nat.le_of_ble_eq_true rfl⟩) hS (fun q _ h => hFc q h) hFc (fun r_1 u_3 t H1 locs ht hvm hw_2 hB hz1 hk1 hS => ?_)
          obtain ⟨hP1, hD1⟩ := hB
          rw [ht] at hP1
          obtain ⟨hP, hD⟩ := va_join (wr := []) (w1 := [(om, .inr (3, [.int th, .int st, .int lo, .ref ob, .int u_3.2.1, .int u_3.2.2.1, .int u_3.2.2.2.1, .int u_3.2.2.2.2, .ref ok, .int km.2, .int qm.1, .int qm.2.1, .int qm.2.2.1, .int qm.2.2.2, .int bd, .int ym.1, .int ym.2.1, .int ym.2.2.1, .int ym.2.2.2])), (ob, .inl (cZ, 5200, .inl u_3.1)), (ok, .inl (cK, 600, .inl km.1))]) hP hD [0, 1, 2] [] rfl rfl (by decide) (by decide) hk1 hFc hP1 hD1
          generalize H1 = H at hP hS ⊢
          have hP : va_P (dC, dI) vwCl [(om, .inr (3, [.int th, .int st, .int lo, .ref ob, .int u_3.2.1, .int u_3.2.2.1, .int u_3.2.2.2.1, .int u_3.2.2.2.2, .ref ok, .int km.2, .int qm.1, .int qm.2.1, .int qm.2.2.1, .int qm.2.2.2, .int bd, .int ym.1, .int ym.2.1, .int ym.2.2.1, .int ym.2.2.2])), (ob, .inl (cZ, 5200, .inl u_3.1)), (ok, .inl (cK, 600, .inl km.1))] H := hP
          have hD : va_D A [(om, .inr (3, [.int th, .int st, .int lo, .ref ob, .int u_3.2.1, .int u_3.2.2.1, .int u_3.2.2.2.1, .int u_3.2.2.2.2, .ref ok, .int km.2, .int qm.1, .int qm.2.1, .int qm.2.2.1, .int qm.2.2.2, .int bd, .int ym.1, .int ym.2.1, .int ym.2.2.1, .int ym.2.2.2])), (ob, .inl (cZ, 5200, .inl u_3.1)), (ok, .inl (cK, 600, .inl km.1))] := hD
          refine lv_istore (lv' := [(5, .int r_1), (0, .ref om), (1, .int p0), (2, .int p1), (3, .int pl), (4, .int k)]) hx hb dX3_put_88 hl (by decide) rfl (fun ls hl => ?_)
          refine lv_iload hx hb dX3_put_90 (lv_at hl 5 rfl) ?_
          refine lv_if_ne (tgt := 100) hx hb dX3_put_92 (by decide) (fun c_92 => ?_) (fun c_92 => ?_)
          · refine lv_iload_n hx hb dX3_put_100 rfl (lv_at hl 4 rfl) ?_
            refine lv_istore_n (lv' := [(3, .int pl), (5, .int r_1), (0, .ref om), (1, .int p0), (2, .int p1), (4, .int k)]) hx hb dX3_put_101 rfl hl (by decide) rfl (fun ls hl => ?_)
            obtain ⟨i_4, ei_4⟩ : ∃ y : Int32, y = k + 1 := ⟨_, rfl⟩
            refine lv_iinc (v := i_4) (lv' := [(4, .int i_4), (3, .int pl), (5, .int r_1), (0, .ref om), (1, .int p0), (2, .int p1)]) hx hb dX3_put_102 hl (k := 5) rfl (by rw [ei_4]; rfl) (by decide) rfl (fun ls hl => ?_)
            refine lv_goto (tgt := 47) hx hb dX3_put_105 (by decide) ?_
            exact ih th u_3 km qm bd ym p0 p1 pl i_4 (fuel_step2 hf (nle_lt c_50) (by assumption)) hm (pl_back hP0 hm c_50 (by assumption) (by assumption)) ((plX3_put_l47_1 st lo n th bm km qm bd ym p0 p1 pl k c_50 c_59 c_77 _ _ hw_2 c_92 _ ei_4).trans hz) _ _ (hP.sub (ws' := [(om, .inr (3, [.int th, .int st, .int lo, .ref ob, .int u_3.2.1, .int u_3.2.2.1, .int u_3.2.2.2.1, .int u_3.2.2.2.2, .ref ok, .int km.2, .int qm.1, .int qm.2.1, .int qm.2.2.1, .int qm.2.2.2, .int bd, .int ym.1, .int ym.2.1, .int ym.2.2.1, .int ym.2.2.2])), (ob, .inl (cZ, 5200, .inl u_3.1)), (ok, .inl (cK, 600, .inl km.1))]) [0, 1, 2] rfl) (hD.sub (ws' := [(om, .inr (3, [.int th, .int st, .int lo, .ref ob, .int u_3.2.1, .int u_3.2.2.1, .int u_3.2.2.2.1, .int u_3.2.2.2.2, .ref ok, .int km.2, .int qm.1, .int qm.2.1, .int qm.2.2.1, .int qm.2.2.2, .int bd, .int ym.1, .int ym.2.1, .int ym.2.2.1, .int ym.2.2.2])), (ob, .inl (cZ, 5200, .inl u_3.1)), (ok, .inl (cK, 600, .inl km.1))]) [0, 1, 2] (by decide) rfl) hS ls (lv_sub hl [3, 4, 5, 1, 0] rfl)
          · refine lv_iload hx hb dX3_put_95 (lv_at hl 0 rfl) ?_
            refine lv_goto (tgt := 101) hx hb dX3_put_97 (by decide) ?_
            refine lv_istore_n (lv' := [(3, .int r_1), (5, .int r_1), (0, .ref om), (1, .int p0), (2, .int p1), (4, .int k)]) hx hb dX3_put_101 rfl hl (by decide) rfl (fun ls hl => ?_)
            obtain ⟨i_5, ei_5⟩ : ∃ y : Int32, y = k + 1 := ⟨_, rfl⟩
            refine lv_iinc (v := i_5) (lv' := [(4, .int i_5), (3, .int r_1), (5, .int r_1), (0, .ref om), (1, .int p0), (2, .int p1)]) hx hb dX3_put_102 hl (k := 5) rfl (by rw [ei_5]; rfl) (by decide) rfl (fun ls hl => ?_)
            refine lv_goto (tgt := 47) hx hb dX3_put_105 (by decide) ?_
            exact ih th u_3 km qm bd ym p0 p1 r_1 i_5 (fuel_step2 hf (nle_lt c_50) (by assumption)) hm (pl_back hP0 hm c_50 (by assumption) (by assumption)) ((plX3_put_l47_2 st lo n th bm km qm bd ym p0 p1 pl k c_50 c_59 c_77 _ _ hw_2 c_92 _ ei_5).trans hz) _ _ (hP.sub (ws' := [(om, .inr (3, [.int th, .int st, .int lo, .ref ob, .int u_3.2.1, .int u_3.2.2.1, .int u_3.2.2.2.1, .int u_3.2.2.2.2, .ref ok, .int km.2, .int qm.1, .int qm.2.1, .int qm.2.2.1, .int qm.2.2.2, .int bd, .int ym.1, .int ym.2.1, .int ym.2.2.1, .int ym.2.2.2])), (ob, .inl (cZ, 5200, .inl u_3.1)), (ok, .inl (cK, 600, .inl km.1))]) [0, 1, 2] rfl) (hD.sub (ws' := [(om, .inr (3, [.int th, .int st, .int lo, .ref ob, .int u_3.2.1, .int u_3.2.2.1, .int u_3.2.2.2.1, .int u_3.2.2.2.2, .ref ok, .int km.2, .int qm.1, .int qm.2.1, .int qm.2.2.1, .int qm.2.2.2, .int bd, .int ym.1, .int ym.2.1, .int ym.2.2.1, .int ym.2.2.2])), (ob, .inl (cZ, 5200, .inl u_3.1)), (ok, .inl (cK, 600, .inl km.1))]) [0, 1, 2] (by decide) rfl) hS ls (lv_sub hl [3, 4, 5, 1, 0] rfl)
        · refine lv_iconst (v := 1) hx hb dX3_put_80 (by decide) ?_
          refine lv_goto (tgt := 85) hx hb dX3_put_81 (by decide) ?_
          have hPc := hP.sub (ws' := [(om, .inr (3, [.int th, .int st, .int lo, .ref ob, .int bm.2.1, .int bm.2.2.1, .int bm.2.2.2.1, .int bm.2.2.2.2, .ref ok, .int km.2, .int qm.1, .int qm.2.1, .int qm.2.2.1, .int qm.2.2.2, .int bd, .int ym.1, .int ym.2.1, .int ym.2.2.1, .int ym.2.2.2])), (ob, .inl (cZ, 5200, .inl bm.1)), (ok, .inl (cK, 600, .inl km.1))]) [0, 1, 2] rfl
          have hKc := hK.sub (tys' := [(cZ, .boolean), (cK, .int)]) [0, 1] rfl
          have hDc := hD.sub (ws' := [(om, .inr (3, [.int th, .int st, .int lo, .ref ob, .int bm.2.1, .int bm.2.2.1, .int bm.2.2.2.1, .int bm.2.2.2.2, .ref ok, .int km.2, .int qm.1, .int qm.2.1, .int qm.2.2.1, .int qm.2.2.2, .int bd, .int ym.1, .int ym.2.1, .int ym.2.2.1, .int ym.2.2.2])), (ob, .inl (cZ, 5200, .inl bm.1)), (ok, .inl (cK, 600, .inl km.1))]) [0, 1, 2] (by decide) rfl
          have hFc := va_free (wc := [(om, .inr (3, [.int th, .int st, .int lo, .ref ob, .int bm.2.1, .int bm.2.2.1, .int bm.2.2.2.1, .int bm.2.2.2.2, .ref ok, .int km.2, .int qm.1, .int qm.2.1, .int qm.2.2.1, .int qm.2.2.2, .int bd, .int ym.1, .int ym.2.1, .int ym.2.2.1, .int ym.2.2.2])), (ob, .inl (cZ, 5200, .inl bm.1)), (ok, .inl (cK, 600, .inl km.1))]) hD hS hA [0, 1, 2] rfl
          refine va_calli (va_runV (As := [.int 1]) (rest := []) ⟨hx, hb, hml, hown, hts⟩ (mX3_putBit l dC dI cZ cK om ob ok H.size st lo th bm km qm bd ym 1 (pl_wok hP0 hm c_50)) (cwV 1 hts (gV wd511 wd512 wd12 wd30 wd513) rfl rfl rfl (by decide +kernel) ⟨Nat.le_of_ble_eq_true rfl, Nat.le_of_ble_eq_true rfl⟩) ⟨fb_rw, va_recv hKc hPc (ci := 3) (q0 := 0) rfl rfl, pre_rw hPc hKc hDc hZ⟩ rfl rfl hl.1 rfl (lv_room (Nat.le_of_ble_eq_true rfl)) dX3_put_85 ⟨Nat.le_of_ble_eq_true rfl, Nat.le_of_ble_eq_true rfl⟩) hS (fun q _ h => hFc q h) hFc (fun r_6 u_8 t H1 locs ht hvm hw_7 hB hz1 hk1 hS => ?_)
          obtain ⟨hP1, hD1⟩ := hB
          rw [ht] at hP1
          obtain ⟨hP, hD⟩ := va_join (wr := []) (w1 := [(om, .inr (3, [.int th, .int st, .int lo, .ref ob, .int u_8.2.1, .int u_8.2.2.1, .int u_8.2.2.2.1, .int u_8.2.2.2.2, .ref ok, .int km.2, .int qm.1, .int qm.2.1, .int qm.2.2.1, .int qm.2.2.2, .int bd, .int ym.1, .int ym.2.1, .int ym.2.2.1, .int ym.2.2.2])), (ob, .inl (cZ, 5200, .inl u_8.1)), (ok, .inl (cK, 600, .inl km.1))]) hP hD [0, 1, 2] [] rfl rfl (by decide) (by decide) hk1 hFc hP1 hD1
          generalize H1 = H at hP hS ⊢
          have hP : va_P (dC, dI) vwCl [(om, .inr (3, [.int th, .int st, .int lo, .ref ob, .int u_8.2.1, .int u_8.2.2.1, .int u_8.2.2.2.1, .int u_8.2.2.2.2, .ref ok, .int km.2, .int qm.1, .int qm.2.1, .int qm.2.2.1, .int qm.2.2.2, .int bd, .int ym.1, .int ym.2.1, .int ym.2.2.1, .int ym.2.2.2])), (ob, .inl (cZ, 5200, .inl u_8.1)), (ok, .inl (cK, 600, .inl km.1))] H := hP
          have hD : va_D A [(om, .inr (3, [.int th, .int st, .int lo, .ref ob, .int u_8.2.1, .int u_8.2.2.1, .int u_8.2.2.2.1, .int u_8.2.2.2.2, .ref ok, .int km.2, .int qm.1, .int qm.2.1, .int qm.2.2.1, .int qm.2.2.2, .int bd, .int ym.1, .int ym.2.1, .int ym.2.2.1, .int ym.2.2.2])), (ob, .inl (cZ, 5200, .inl u_8.1)), (ok, .inl (cK, 600, .inl km.1))] := hD
          refine lv_istore (lv' := [(5, .int r_6), (0, .ref om), (1, .int p0), (2, .int p1), (3, .int pl), (4, .int k)]) hx hb dX3_put_88 hl (by decide) rfl (fun ls hl => ?_)
          refine lv_iload hx hb dX3_put_90 (lv_at hl 5 rfl) ?_
          refine lv_if_ne (tgt := 100) hx hb dX3_put_92 (by decide) (fun c_92 => ?_) (fun c_92 => ?_)
          · refine lv_iload_n hx hb dX3_put_100 rfl (lv_at hl 4 rfl) ?_
            refine lv_istore_n (lv' := [(3, .int pl), (5, .int r_6), (0, .ref om), (1, .int p0), (2, .int p1), (4, .int k)]) hx hb dX3_put_101 rfl hl (by decide) rfl (fun ls hl => ?_)
            obtain ⟨i_9, ei_9⟩ : ∃ y : Int32, y = k + 1 := ⟨_, rfl⟩
            refine lv_iinc (v := i_9) (lv' := [(4, .int i_9), (3, .int pl), (5, .int r_6), (0, .ref om), (1, .int p0), (2, .int p1)]) hx hb dX3_put_102 hl (k := 5) rfl (by rw [ei_9]; rfl) (by decide) rfl (fun ls hl => ?_)
            refine lv_goto (tgt := 47) hx hb dX3_put_105 (by decide) ?_
            exact ih th u_8 km qm bd ym p0 p1 pl i_9 (fuel_step2 hf (nle_lt c_50) (by assumption)) hm (pl_back hP0 hm c_50 (by assumption) (by assumption)) ((plX3_put_l47_3 st lo n th bm km qm bd ym p0 p1 pl k c_50 c_59 c_77 _ _ hw_7 c_92 _ ei_9).trans hz) _ _ (hP.sub (ws' := [(om, .inr (3, [.int th, .int st, .int lo, .ref ob, .int u_8.2.1, .int u_8.2.2.1, .int u_8.2.2.2.1, .int u_8.2.2.2.2, .ref ok, .int km.2, .int qm.1, .int qm.2.1, .int qm.2.2.1, .int qm.2.2.2, .int bd, .int ym.1, .int ym.2.1, .int ym.2.2.1, .int ym.2.2.2])), (ob, .inl (cZ, 5200, .inl u_8.1)), (ok, .inl (cK, 600, .inl km.1))]) [0, 1, 2] rfl) (hD.sub (ws' := [(om, .inr (3, [.int th, .int st, .int lo, .ref ob, .int u_8.2.1, .int u_8.2.2.1, .int u_8.2.2.2.1, .int u_8.2.2.2.2, .ref ok, .int km.2, .int qm.1, .int qm.2.1, .int qm.2.2.1, .int qm.2.2.2, .int bd, .int ym.1, .int ym.2.1, .int ym.2.2.1, .int ym.2.2.2])), (ob, .inl (cZ, 5200, .inl u_8.1)), (ok, .inl (cK, 600, .inl km.1))]) [0, 1, 2] (by decide) rfl) hS ls (lv_sub hl [3, 4, 5, 1, 0] rfl)
          · refine lv_iload hx hb dX3_put_95 (lv_at hl 0 rfl) ?_
            refine lv_goto (tgt := 101) hx hb dX3_put_97 (by decide) ?_
            refine lv_istore_n (lv' := [(3, .int r_6), (5, .int r_6), (0, .ref om), (1, .int p0), (2, .int p1), (4, .int k)]) hx hb dX3_put_101 rfl hl (by decide) rfl (fun ls hl => ?_)
            obtain ⟨i_10, ei_10⟩ : ∃ y : Int32, y = k + 1 := ⟨_, rfl⟩
            refine lv_iinc (v := i_10) (lv' := [(4, .int i_10), (3, .int r_6), (5, .int r_6), (0, .ref om), (1, .int p0), (2, .int p1)]) hx hb dX3_put_102 hl (k := 5) rfl (by rw [ei_10]; rfl) (by decide) rfl (fun ls hl => ?_)
            refine lv_goto (tgt := 47) hx hb dX3_put_105 (by decide) ?_
            exact ih th u_8 km qm bd ym p0 p1 r_6 i_10 (fuel_step2 hf (nle_lt c_50) (by assumption)) hm (pl_back hP0 hm c_50 (by assumption) (by assumption)) ((plX3_put_l47_4 st lo n th bm km qm bd ym p0 p1 pl k c_50 c_59 c_77 _ _ hw_7 c_92 _ ei_10).trans hz) _ _ (hP.sub (ws' := [(om, .inr (3, [.int th, .int st, .int lo, .ref ob, .int u_8.2.1, .int u_8.2.2.1, .int u_8.2.2.2.1, .int u_8.2.2.2.2, .ref ok, .int km.2, .int qm.1, .int qm.2.1, .int qm.2.2.1, .int qm.2.2.2, .int bd, .int ym.1, .int ym.2.1, .int ym.2.2.1, .int ym.2.2.2])), (ob, .inl (cZ, 5200, .inl u_8.1)), (ok, .inl (cK, 600, .inl km.1))]) [0, 1, 2] rfl) (hD.sub (ws' := [(om, .inr (3, [.int th, .int st, .int lo, .ref ob, .int u_8.2.1, .int u_8.2.2.1, .int u_8.2.2.2.1, .int u_8.2.2.2.2, .ref ok, .int km.2, .int qm.1, .int qm.2.1, .int qm.2.2.1, .int qm.2.2.2, .int bd, .int ym.1, .int ym.2.1, .int ym.2.2.1, .int ym.2.2.2])), (ob, .inl (cZ, 5200, .inl u_8.1)), (ok, .inl (cK, 600, .inl km.1))]) [0, 1, 2] (by decide) rfl) hS ls (lv_sub hl [3, 4, 5, 1, 0] rfl)
      · refine lv_iload hx hb dX3_put_62 (lv_at hl 4 rfl) ?_
        refine lv_goto (tgt := 73) hx hb dX3_put_64 (by decide) ?_
        refine lv_iushr (v := (p1.toUInt32 >>> (k.toUInt32 &&& Int32.toUInt32 31)).toInt32) hx hb dX3_put_73 rfl ?_
        refine lv_iconst (v := 1) hx hb dX3_put_74 (by decide) ?_
        refine lv_iand hx hb dX3_put_75 ?_
        refine lv_iconst (v := 1) hx hb dX3_put_76 (by decide) ?_
        refine lv_icmp_ne (tgt := 84) hx hb dX3_put_77 (by decide) (fun c_77 => ?_) (fun c_77 => ?_)
        · refine lv_iconst (v := 0) hx hb dX3_put_84 (by decide) ?_
          have hPc := hP.sub (ws' := [(om, .inr (3, [.int th, .int st, .int lo, .ref ob, .int bm.2.1, .int bm.2.2.1, .int bm.2.2.2.1, .int bm.2.2.2.2, .ref ok, .int km.2, .int qm.1, .int qm.2.1, .int qm.2.2.1, .int qm.2.2.2, .int bd, .int ym.1, .int ym.2.1, .int ym.2.2.1, .int ym.2.2.2])), (ob, .inl (cZ, 5200, .inl bm.1)), (ok, .inl (cK, 600, .inl km.1))]) [0, 1, 2] rfl
          have hKc := hK.sub (tys' := [(cZ, .boolean), (cK, .int)]) [0, 1] rfl
          have hDc := hD.sub (ws' := [(om, .inr (3, [.int th, .int st, .int lo, .ref ob, .int bm.2.1, .int bm.2.2.1, .int bm.2.2.2.1, .int bm.2.2.2.2, .ref ok, .int km.2, .int qm.1, .int qm.2.1, .int qm.2.2.1, .int qm.2.2.2, .int bd, .int ym.1, .int ym.2.1, .int ym.2.2.1, .int ym.2.2.2])), (ob, .inl (cZ, 5200, .inl bm.1)), (ok, .inl (cK, 600, .inl km.1))]) [0, 1, 2] (by decide) rfl
          have hFc := va_free (wc := [(om, .inr (3, [.int th, .int st, .int lo, .ref ob, .int bm.2.1, .int bm.2.2.1, .int bm.2.2.2.1, .int bm.2.2.2.2, .ref ok, .int km.2, .int qm.1, .int qm.2.1, .int qm.2.2.1, .int qm.2.2.2, .int bd, .int ym.1, .int ym.2.1, .int ym.2.2.1, .int ym.2.2.2])), (ob, .inl (cZ, 5200, .inl bm.1)), (ok, .inl (cK, 600, .inl km.1))]) hD hS hA [0, 1, 2] rfl
          refine va_calli (va_runV (As := [.int 0]) (rest := []) ⟨hx, hb, hml, hown, hts⟩ (mX3_putBit l dC dI cZ cK om ob ok H.size st lo th bm km qm bd ym 0 (pl_wok hP0 hm c_50)) (cwV 1 hts (gV wd511 wd512 wd12 wd30 wd513) rfl rfl rfl (by decide +kernel) ⟨Nat.le_of_ble_eq_true rfl, Nat.le_of_ble_eq_true rfl⟩) ⟨fb_rw, va_recv hKc hPc (ci := 3) (q0 := 0) rfl rfl, pre_rw hPc hKc hDc hZ⟩ rfl rfl hl.1 rfl (lv_room (Nat.le_of_ble_eq_true rfl)) dX3_put_85 ⟨Nat.le_of_ble_eq_true rfl, Nat.le_of_ble_eq_true rfl⟩) hS (fun q _ h => hFc q h) hFc (fun r_11 u_13 t H1 locs ht hvm hw_12 hB hz1 hk1 hS => ?_)
          obtain ⟨hP1, hD1⟩ := hB
          rw [ht] at hP1
          obtain ⟨hP, hD⟩ := va_join (wr := []) (w1 := [(om, .inr (3, [.int th, .int st, .int lo, .ref ob, .int u_13.2.1, .int u_13.2.2.1, .int u_13.2.2.2.1, .int u_13.2.2.2.2, .ref ok, .int km.2, .int qm.1, .int qm.2.1, .int qm.2.2.1, .int qm.2.2.2, .int bd, .int ym.1, .int ym.2.1, .int ym.2.2.1, .int ym.2.2.2])), (ob, .inl (cZ, 5200, .inl u_13.1)), (ok, .inl (cK, 600, .inl km.1))]) hP hD [0, 1, 2] [] rfl rfl (by decide) (by decide) hk1 hFc hP1 hD1
          generalize H1 = H at hP hS ⊢
          have hP : va_P (dC, dI) vwCl [(om, .inr (3, [.int th, .int st, .int lo, .ref ob, .int u_13.2.1, .int u_13.2.2.1, .int u_13.2.2.2.1, .int u_13.2.2.2.2, .ref ok, .int km.2, .int qm.1, .int qm.2.1, .int qm.2.2.1, .int qm.2.2.2, .int bd, .int ym.1, .int ym.2.1, .int ym.2.2.1, .int ym.2.2.2])), (ob, .inl (cZ, 5200, .inl u_13.1)), (ok, .inl (cK, 600, .inl km.1))] H := hP
          have hD : va_D A [(om, .inr (3, [.int th, .int st, .int lo, .ref ob, .int u_13.2.1, .int u_13.2.2.1, .int u_13.2.2.2.1, .int u_13.2.2.2.2, .ref ok, .int km.2, .int qm.1, .int qm.2.1, .int qm.2.2.1, .int qm.2.2.2, .int bd, .int ym.1, .int ym.2.1, .int ym.2.2.1, .int ym.2.2.2])), (ob, .inl (cZ, 5200, .inl u_13.1)), (ok, .inl (cK, 600, .inl km.1))] := hD
          refine lv_istore (lv' := [(5, .int r_11), (0, .ref om), (1, .int p0), (2, .int p1), (3, .int pl), (4, .int k)]) hx hb dX3_put_88 hl (by decide) rfl (fun ls hl => ?_)
          refine lv_iload hx hb dX3_put_90 (lv_at hl 5 rfl) ?_
          refine lv_if_ne (tgt := 100) hx hb dX3_put_92 (by decide) (fun c_92 => ?_) (fun c_92 => ?_)
          · refine lv_iload_n hx hb dX3_put_100 rfl (lv_at hl 4 rfl) ?_
            refine lv_istore_n (lv' := [(3, .int pl), (5, .int r_11), (0, .ref om), (1, .int p0), (2, .int p1), (4, .int k)]) hx hb dX3_put_101 rfl hl (by decide) rfl (fun ls hl => ?_)
            obtain ⟨i_14, ei_14⟩ : ∃ y : Int32, y = k + 1 := ⟨_, rfl⟩
            refine lv_iinc (v := i_14) (lv' := [(4, .int i_14), (3, .int pl), (5, .int r_11), (0, .ref om), (1, .int p0), (2, .int p1)]) hx hb dX3_put_102 hl (k := 5) rfl (by rw [ei_14]; rfl) (by decide) rfl (fun ls hl => ?_)
            refine lv_goto (tgt := 47) hx hb dX3_put_105 (by decide) ?_
            exact ih th u_13 km qm bd ym p0 p1 pl i_14 (fuel_step2 hf (nle_lt c_50) (by assumption)) hm (pl_back hP0 hm c_50 (by assumption) (by assumption)) ((plX3_put_l47_5 st lo n th bm km qm bd ym p0 p1 pl k c_50 c_59 c_77 _ _ hw_12 c_92 _ ei_14).trans hz) _ _ (hP.sub (ws' := [(om, .inr (3, [.int th, .int st, .int lo, .ref ob, .int u_13.2.1, .int u_13.2.2.1, .int u_13.2.2.2.1, .int u_13.2.2.2.2, .ref ok, .int km.2, .int qm.1, .int qm.2.1, .int qm.2.2.1, .int qm.2.2.2, .int bd, .int ym.1, .int ym.2.1, .int ym.2.2.1, .int ym.2.2.2])), (ob, .inl (cZ, 5200, .inl u_13.1)), (ok, .inl (cK, 600, .inl km.1))]) [0, 1, 2] rfl) (hD.sub (ws' := [(om, .inr (3, [.int th, .int st, .int lo, .ref ob, .int u_13.2.1, .int u_13.2.2.1, .int u_13.2.2.2.1, .int u_13.2.2.2.2, .ref ok, .int km.2, .int qm.1, .int qm.2.1, .int qm.2.2.1, .int qm.2.2.2, .int bd, .int ym.1, .int ym.2.1, .int ym.2.2.1, .int ym.2.2.2])), (ob, .inl (cZ, 5200, .inl u_13.1)), (ok, .inl (cK, 600, .inl km.1))]) [0, 1, 2] (by decide) rfl) hS ls (lv_sub hl [3, 4, 5, 1, 0] rfl)
          · refine lv_iload hx hb dX3_put_95 (lv_at hl 0 rfl) ?_
            refine lv_goto (tgt := 101) hx hb dX3_put_97 (by decide) ?_
            refine lv_istore_n (lv' := [(3, .int r_11), (5, .int r_11), (0, .ref om), (1, .int p0), (2, .int p1), (4, .int k)]) hx hb dX3_put_101 rfl hl (by decide) rfl (fun ls hl => ?_)
            obtain ⟨i_15, ei_15⟩ : ∃ y : Int32, y = k + 1 := ⟨_, rfl⟩
            refine lv_iinc (v := i_15) (lv' := [(4, .int i_15), (3, .int r_11), (5, .int r_11), (0, .ref om), (1, .int p0), (2, .int p1)]) hx hb dX3_put_102 hl (k := 5) rfl (by rw [ei_15]; rfl) (by decide) rfl (fun ls hl => ?_)
            refine lv_goto (tgt := 47) hx hb dX3_put_105 (by decide) ?_
            exact ih th u_13 km qm bd ym p0 p1 r_11 i_15 (fuel_step2 hf (nle_lt c_50) (by assumption)) hm (pl_back hP0 hm c_50 (by assumption) (by assumption)) ((plX3_put_l47_6 st lo n th bm km qm bd ym p0 p1 pl k c_50 c_59 c_77 _ _ hw_12 c_92 _ ei_15).trans hz) _ _ (hP.sub (ws' := [(om, .inr (3, [.int th, .int st, .int lo, .ref ob, .int u_13.2.1, .int u_13.2.2.1, .int u_13.2.2.2.1, .int u_13.2.2.2.2, .ref ok, .int km.2, .int qm.1, .int qm.2.1, .int qm.2.2.1, .int qm.2.2.2, .int bd, .int ym.1, .int ym.2.1, .int ym.2.2.1, .int ym.2.2.2])), (ob, .inl (cZ, 5200, .inl u_13.1)), (ok, .inl (cK, 600, .inl km.1))]) [0, 1, 2] rfl) (hD.sub (ws' := [(om, .inr (3, [.int th, .int st, .int lo, .ref ob, .int u_13.2.1, .int u_13.2.2.1, .int u_13.2.2.2.1, .int u_13.2.2.2.2, .ref ok, .int km.2, .int qm.1, .int qm.2.1, .int qm.2.2.1, .int qm.2.2.2, .int bd, .int ym.1, .int ym.2.1, .int ym.2.2.1, .int ym.2.2.2])), (ob, .inl (cZ, 5200, .inl u_13.1)), (ok, .inl (cK, 600, .inl km.1))]) [0, 1, 2] (by decide) rfl) hS ls (lv_sub hl [3, 4, 5, 1, 0] rfl)
        · refine lv_iconst (v := 1) hx hb dX3_put_80 (by decide) ?_
          refine lv_goto (tgt := 85) hx hb dX3_put_81 (by decide) ?_
          have hPc := hP.sub (ws' := [(om, .inr (3, [.int th, .int st, .int lo, .ref ob, .int bm.2.1, .int bm.2.2.1, .int bm.2.2.2.1, .int bm.2.2.2.2, .ref ok, .int km.2, .int qm.1, .int qm.2.1, .int qm.2.2.1, .int qm.2.2.2, .int bd, .int ym.1, .int ym.2.1, .int ym.2.2.1, .int ym.2.2.2])), (ob, .inl (cZ, 5200, .inl bm.1)), (ok, .inl (cK, 600, .inl km.1))]) [0, 1, 2] rfl
          have hKc := hK.sub (tys' := [(cZ, .boolean), (cK, .int)]) [0, 1] rfl
          have hDc := hD.sub (ws' := [(om, .inr (3, [.int th, .int st, .int lo, .ref ob, .int bm.2.1, .int bm.2.2.1, .int bm.2.2.2.1, .int bm.2.2.2.2, .ref ok, .int km.2, .int qm.1, .int qm.2.1, .int qm.2.2.1, .int qm.2.2.2, .int bd, .int ym.1, .int ym.2.1, .int ym.2.2.1, .int ym.2.2.2])), (ob, .inl (cZ, 5200, .inl bm.1)), (ok, .inl (cK, 600, .inl km.1))]) [0, 1, 2] (by decide) rfl
          have hFc := va_free (wc := [(om, .inr (3, [.int th, .int st, .int lo, .ref ob, .int bm.2.1, .int bm.2.2.1, .int bm.2.2.2.1, .int bm.2.2.2.2, .ref ok, .int km.2, .int qm.1, .int qm.2.1, .int qm.2.2.1, .int qm.2.2.2, .int bd, .int ym.1, .int ym.2.1, .int ym.2.2.1, .int ym.2.2.2])), (ob, .inl (cZ, 5200, .inl bm.1)), (ok, .inl (cK, 600, .inl km.1))]) hD hS hA [0, 1, 2] rfl
          refine va_calli (va_runV (As := [.int 1]) (rest := []) ⟨hx, hb, hml, hown, hts⟩ (mX3_putBit l dC dI cZ cK om ob ok H.size st lo th bm km qm bd ym 1 (pl_wok hP0 hm c_50)) (cwV 1 hts (gV wd511 wd512 wd12 wd30 wd513) rfl rfl rfl (by decide +kernel) ⟨Nat.le_of_ble_eq_true rfl, Nat.le_of_ble_eq_true rfl⟩) ⟨fb_rw, va_recv hKc hPc (ci := 3) (q0 := 0) rfl rfl, pre_rw hPc hKc hDc hZ⟩ rfl rfl hl.1 rfl (lv_room (Nat.le_of_ble_eq_true rfl)) dX3_put_85 ⟨Nat.le_of_ble_eq_true rfl, Nat.le_of_ble_eq_true rfl⟩) hS (fun q _ h => hFc q h) hFc (fun r_16 u_18 t H1 locs ht hvm hw_17 hB hz1 hk1 hS => ?_)
          obtain ⟨hP1, hD1⟩ := hB
          rw [ht] at hP1
          obtain ⟨hP, hD⟩ := va_join (wr := []) (w1 := [(om, .inr (3, [.int th, .int st, .int lo, .ref ob, .int u_18.2.1, .int u_18.2.2.1, .int u_18.2.2.2.1, .int u_18.2.2.2.2, .ref ok, .int km.2, .int qm.1, .int qm.2.1, .int qm.2.2.1, .int qm.2.2.2, .int bd, .int ym.1, .int ym.2.1, .int ym.2.2.1, .int ym.2.2.2])), (ob, .inl (cZ, 5200, .inl u_18.1)), (ok, .inl (cK, 600, .inl km.1))]) hP hD [0, 1, 2] [] rfl rfl (by decide) (by decide) hk1 hFc hP1 hD1
          generalize H1 = H at hP hS ⊢
          have hP : va_P (dC, dI) vwCl [(om, .inr (3, [.int th, .int st, .int lo, .ref ob, .int u_18.2.1, .int u_18.2.2.1, .int u_18.2.2.2.1, .int u_18.2.2.2.2, .ref ok, .int km.2, .int qm.1, .int qm.2.1, .int qm.2.2.1, .int qm.2.2.2, .int bd, .int ym.1, .int ym.2.1, .int ym.2.2.1, .int ym.2.2.2])), (ob, .inl (cZ, 5200, .inl u_18.1)), (ok, .inl (cK, 600, .inl km.1))] H := hP
          have hD : va_D A [(om, .inr (3, [.int th, .int st, .int lo, .ref ob, .int u_18.2.1, .int u_18.2.2.1, .int u_18.2.2.2.1, .int u_18.2.2.2.2, .ref ok, .int km.2, .int qm.1, .int qm.2.1, .int qm.2.2.1, .int qm.2.2.2, .int bd, .int ym.1, .int ym.2.1, .int ym.2.2.1, .int ym.2.2.2])), (ob, .inl (cZ, 5200, .inl u_18.1)), (ok, .inl (cK, 600, .inl km.1))] := hD
          refine lv_istore (lv' := [(5, .int r_16), (0, .ref om), (1, .int p0), (2, .int p1), (3, .int pl), (4, .int k)]) hx hb dX3_put_88 hl (by decide) rfl (fun ls hl => ?_)
          refine lv_iload hx hb dX3_put_90 (lv_at hl 5 rfl) ?_
          refine lv_if_ne (tgt := 100) hx hb dX3_put_92 (by decide) (fun c_92 => ?_) (fun c_92 => ?_)
          · refine lv_iload_n hx hb dX3_put_100 rfl (lv_at hl 4 rfl) ?_
            refine lv_istore_n (lv' := [(3, .int pl), (5, .int r_16), (0, .ref om), (1, .int p0), (2, .int p1), (4, .int k)]) hx hb dX3_put_101 rfl hl (by decide) rfl (fun ls hl => ?_)
            obtain ⟨i_19, ei_19⟩ : ∃ y : Int32, y = k + 1 := ⟨_, rfl⟩
            refine lv_iinc (v := i_19) (lv' := [(4, .int i_19), (3, .int pl), (5, .int r_16), (0, .ref om), (1, .int p0), (2, .int p1)]) hx hb dX3_put_102 hl (k := 5) rfl (by rw [ei_19]; rfl) (by decide) rfl (fun ls hl => ?_)
            refine lv_goto (tgt := 47) hx hb dX3_put_105 (by decide) ?_
            exact ih th u_18 km qm bd ym p0 p1 pl i_19 (fuel_step2 hf (nle_lt c_50) (by assumption)) hm (pl_back hP0 hm c_50 (by assumption) (by assumption)) ((plX3_put_l47_7 st lo n th bm km qm bd ym p0 p1 pl k c_50 c_59 c_77 _ _ hw_17 c_92 _ ei_19).trans hz) _ _ (hP.sub (ws' := [(om, .inr (3, [.int th, .int st, .int lo, .ref ob, .int u_18.2.1, .int u_18.2.2.1, .int u_18.2.2.2.1, .int u_18.2.2.2.2, .ref ok, .int km.2, .int qm.1, .int qm.2.1, .int qm.2.2.1, .int qm.2.2.2, .int bd, .int ym.1, .int ym.2.1, .int ym.2.2.1, .int ym.2.2.2])), (ob, .inl (cZ, 5200, .inl u_18.1)), (ok, .inl (cK, 600, .inl km.1))]) [0, 1, 2] rfl) (hD.sub (ws' := [(om, .inr (3, [.int th, .int st, .int lo, .ref ob, .int u_18.2.1, .int u_18.2.2.1, .int u_18.2.2.2.1, .int u_18.2.2.2.2, .ref ok, .int km.2, .int qm.1, .int qm.2.1, .int qm.2.2.1, .int qm.2.2.2, .int bd, .int ym.1, .int ym.2.1, .int ym.2.2.1, .int ym.2.2.2])), (ob, .inl (cZ, 5200, .inl u_18.1)), (ok, .inl (cK, 600, .inl km.1))]) [0, 1, 2] (by decide) rfl) hS ls (lv_sub hl [3, 4, 5, 1, 0] rfl)
          · refine lv_iload hx hb dX3_put_95 (lv_at hl 0 rfl) ?_
            refine lv_goto (tgt := 101) hx hb dX3_put_97 (by decide) ?_
            refine lv_istore_n (lv' := [(3, .int r_16), (5, .int r_16), (0, .ref om), (1, .int p0), (2, .int p1), (4, .int k)]) hx hb dX3_put_101 rfl hl (by decide) rfl (fun ls hl => ?_)
            obtain ⟨i_20, ei_20⟩ : ∃ y : Int32, y = k + 1 := ⟨_, rfl⟩
            refine lv_iinc (v := i_20) (lv' := [(4, .int i_20), (3, .int r_16), (5, .int r_16), (0, .ref om), (1, .int p0), (2, .int p1)]) hx hb dX3_put_102 hl (k := 5) rfl (by rw [ei_20]; rfl) (by decide) rfl (fun ls hl => ?_)
            refine lv_goto (tgt := 47) hx hb dX3_put_105 (by decide) ?_
            exact ih th u_18 km qm bd ym p0 p1 r_16 i_20 (fuel_step2 hf (nle_lt c_50) (by assumption)) hm (pl_back hP0 hm c_50 (by assumption) (by assumption)) ((plX3_put_l47_8 st lo n th bm km qm bd ym p0 p1 pl k c_50 c_59 c_77 _ _ hw_17 c_92 _ ei_20).trans hz) _ _ (hP.sub (ws' := [(om, .inr (3, [.int th, .int st, .int lo, .ref ob, .int u_18.2.1, .int u_18.2.2.1, .int u_18.2.2.2.1, .int u_18.2.2.2.2, .ref ok, .int km.2, .int qm.1, .int qm.2.1, .int qm.2.2.1, .int qm.2.2.2, .int bd, .int ym.1, .int ym.2.1, .int ym.2.2.1, .int ym.2.2.2])), (ob, .inl (cZ, 5200, .inl u_18.1)), (ok, .inl (cK, 600, .inl km.1))]) [0, 1, 2] rfl) (hD.sub (ws' := [(om, .inr (3, [.int th, .int st, .int lo, .ref ob, .int u_18.2.1, .int u_18.2.2.1, .int u_18.2.2.2.1, .int u_18.2.2.2.2, .ref ok, .int km.2, .int qm.1, .int qm.2.1, .int qm.2.2.1, .int qm.2.2.2, .int bd, .int ym.1, .int ym.2.1, .int ym.2.2.1, .int ym.2.2.2])), (ob, .inl (cZ, 5200, .inl u_18.1)), (ok, .inl (cK, 600, .inl km.1))]) [0, 1, 2] (by decide) rfl) hS ls (lv_sub hl [3, 4, 5, 1, 0] rfl)
set_option maxHeartbeats 4000000 in
set_option maxRecDepth 100000 in
theorem kX3_put_30 {p : Program} {l : Launch} {e : Env} {s : State} {m : MethodId} {args : Array Value} {below : List Frame} {meth : Method} {c : Code} {dC : Nat → ClassId} {dI : Nat → Nat → Nat} {cZ cK : ClassId} {om ob ok : Nat} {st : Int32} {lo : Int32} {z : Int32 × Int32 × Bm} {A : Nat → Prop} (hx : p.tables.exec = Jvm.exec) (hb : c.code = cX3_put) (hr : meth.sig.returnType = (some .int)) (hml : c.maxLocals = 6) (hown : s.vm.findClass RX3 = some m.cls) (hts : ∀ w ∈ G, w.before args s = true) (hlocks : meth.locks = false) (hA : ∀ q : Nat, s.heap.size ≤ q → A q) (hZ : zOk s) (hK : va_K (dC, dI) vwCl [(cZ, .boolean), (cK, .int)] s) : ∀ (th : Int32) (bm : Bm) (km : Rw) (qm : Tk) (bd : Int32) (ym : Tk) (p0 : Int32) (p1 : Int32) (v : Int32), (wok bm 400) → (v ≤ 0 → 1 ≤ p0.toInt ∧ p0.toInt ≤ 32) → LX3_put_30 st lo th bm km qm bd ym p0 p1 v = z → ∀ (H : Heap) (locs : List Loc), va_P (dC, dI) vwCl [(om, .inr (3, [.int th, .int st, .int lo, .ref ob, .int bm.2.1, .int bm.2.2.1, .int bm.2.2.2.1, .int bm.2.2.2.2, .ref ok, .int km.2, .int qm.1, .int qm.2.1, .int qm.2.2.1, .int qm.2.2.2, .int bd, .int ym.1, .int ym.2.1, .int ym.2.2.1, .int ym.2.2.2])), (ob, .inl (cZ, 5200, .inl bm.1)), (ok, .inl (cK, 600, .inl km.1))] H → va_D A [(om, .inr (3, [.int th, .int st, .int lo, .ref ob, .int bm.2.1, .int bm.2.2.1, .int bm.2.2.2.1, .int bm.2.2.2.2, .ref ok, .int km.2, .int qm.1, .int qm.2.1, .int qm.2.2.1, .int qm.2.2.2, .int bd, .int ym.1, .int ym.2.1, .int ym.2.2.1, .int ym.2.2.2])), (ob, .inl (cZ, 5200, .inl bm.1)), (ok, .inl (cK, 600, .inl km.1))] → va_S A s.heap H locs → ∀ (ls : Array Slot), lv_has ls 6 [(0, .ref om), (1, .int p0), (2, .int p1)] → W p l e (headSpec (Cond.code yX3_put cX3_put 6 (some .int) :: G) ({ frames := 4, cells := 0, slots := 0, locals := 88 } : Room)).room s m args below meth c H locs 0 0 (MQ below (va_Qi (fun (r : Int32) (u : Int32 × Bm) => (r, u) = z) (fun (u : Int32 × Bm) (t : State) => va_P (dC, dI) vwCl [(om, .inr (3, [.int u.1, .int st, .int lo, .ref ob, .int u.2.2.1, .int u.2.2.2.1, .int u.2.2.2.2.1, .int u.2.2.2.2.2, .ref ok, .int km.2, .int qm.1, .int qm.2.1, .int qm.2.2.1, .int qm.2.2.2, .int bd, .int ym.1, .int ym.2.1, .int ym.2.2.1, .int ym.2.2.2])), (ob, .inl (cZ, 5200, .inl u.2.1)), (ok, .inl (cK, 600, .inl km.1))] t.heap ∧ va_D A [(om, .inr (3, [.int u.1, .int st, .int lo, .ref ob, .int u.2.2.1, .int u.2.2.2.1, .int u.2.2.2.2.1, .int u.2.2.2.2.2, .ref ok, .int km.2, .int qm.1, .int qm.2.1, .int qm.2.2.1, .int qm.2.2.2, .int bd, .int ym.1, .int ym.2.1, .int ym.2.2.1, .int ym.2.2.2])), (ob, .inl (cZ, 5200, .inl u.2.1)), (ok, .inl (cK, 600, .inl km.1))]) A) args s 0 0 A) (F0 m 30 ls [.int v, .ref om]) := by
  intro th bm km qm bd ym p0 p1 v hW hv hz H locs hP hD hS ls hl
  refine va_put (D := (dC, dI)) (ci := 3) (v := .int v) (ty := .int) (C := RX3) (T := TX3) (N := 19) hx hb hts inGX3 tyX3 tyX3_ok nmX3 hown hK hP hD hS 0 rfl rfl 0 (by decide) (hts _ wd437) (fun _ h9 => h9) rfl (by decide +kernel) rfl rfl (Nat.le_of_ble_eq_true rfl) dX3_put_30 (fun H locs hP hD hS => ?_)
  have hP : va_P (dC, dI) vwCl [(om, .inr (3, [.int v, .int st, .int lo, .ref ob, .int bm.2.1, .int bm.2.2.1, .int bm.2.2.2.1, .int bm.2.2.2.2, .ref ok, .int km.2, .int qm.1, .int qm.2.1, .int qm.2.2.1, .int qm.2.2.2, .int bd, .int ym.1, .int ym.2.1, .int ym.2.2.1, .int ym.2.2.2])), (ob, .inl (cZ, 5200, .inl bm.1)), (ok, .inl (cK, 600, .inl km.1))] H := hP
  have hD : va_D A [(om, .inr (3, [.int v, .int st, .int lo, .ref ob, .int bm.2.1, .int bm.2.2.1, .int bm.2.2.2.1, .int bm.2.2.2.2, .ref ok, .int km.2, .int qm.1, .int qm.2.1, .int qm.2.2.1, .int qm.2.2.2, .int bd, .int ym.1, .int ym.2.1, .int ym.2.2.1, .int ym.2.2.2])), (ob, .inl (cZ, 5200, .inl bm.1)), (ok, .inl (cK, 600, .inl km.1))] := hD
  refine lv_aload_n hx hb dX3_put_33 rfl (lv_at hl 0 rfl) ?_
  refine va_get (D := (dC, dI)) (ci := 3) (v := .int v) (C := RX3) (T := TX3) (N := 19) hx hb hts inGX3 hown hK hP 0 rfl rfl 0 (by decide) (hts _ wd437) (fun _ h9 => h9) rfl dX3_put_34 ?_
  refine lv_if_le (tgt := 42) hx hb dX3_put_37 (by decide) (fun c_37 => ?_) (fun c_37 => ?_)
  · refine lv_iconst (v := 0) hx hb dX3_put_42 (by decide) ?_
    refine lv_istore_n (lv' := [(3, .int 0), (0, .ref om), (1, .int p0), (2, .int p1)]) hx hb dX3_put_43 rfl hl (by decide) rfl (fun ls hl => ?_)
    refine lv_iconst (v := 0) hx hb dX3_put_44 (by decide) ?_
    refine lv_istore (lv' := [(4, .int 0), (3, .int 0), (0, .ref om), (1, .int p0), (2, .int p1)]) hx hb dX3_put_45 hl (by decide) rfl (fun ls hl => ?_)
    exact kX3_put_47 hx hb hr hml hown hts hlocks hA hZ hK (fz 0 p0) v bm km qm bd ym p0 p1 0 0 (fz_ok _ _) ((hv c_37).2) (⟨by decide, by decide, hW.1, by have q := hW.2; have z := i0; omega⟩) ((plX3_put_l30_0 st lo th bm km qm bd ym p0 p1 v c_37).trans hz) _ _ (hP.sub (ws' := [(om, .inr (3, [.int v, .int st, .int lo, .ref ob, .int bm.2.1, .int bm.2.2.1, .int bm.2.2.2.1, .int bm.2.2.2.2, .ref ok, .int km.2, .int qm.1, .int qm.2.1, .int qm.2.2.1, .int qm.2.2.2, .int bd, .int ym.1, .int ym.2.1, .int ym.2.2.1, .int ym.2.2.2])), (ob, .inl (cZ, 5200, .inl bm.1)), (ok, .inl (cK, 600, .inl km.1))]) [0, 1, 2] rfl) (hD.sub (ws' := [(om, .inr (3, [.int v, .int st, .int lo, .ref ob, .int bm.2.1, .int bm.2.2.1, .int bm.2.2.2.1, .int bm.2.2.2.2, .ref ok, .int km.2, .int qm.1, .int qm.2.1, .int qm.2.2.1, .int qm.2.2.2, .int bd, .int ym.1, .int ym.2.1, .int ym.2.2.1, .int ym.2.2.2])), (ob, .inl (cZ, 5200, .inl bm.1)), (ok, .inl (cK, 600, .inl km.1))]) [0, 1, 2] (by decide) rfl) hS ls (lv_sub hl [2, 3, 4, 1, 0] rfl)
  · refine lv_iconst (v := 0) hx hb dX3_put_40 (by decide) ?_
    have hP9 := hP.sub (ws' := [(om, .inr (3, [.int v, .int st, .int lo, .ref ob, .int bm.2.1, .int bm.2.2.1, .int bm.2.2.2.1, .int bm.2.2.2.2, .ref ok, .int km.2, .int qm.1, .int qm.2.1, .int qm.2.2.1, .int qm.2.2.2, .int bd, .int ym.1, .int ym.2.1, .int ym.2.2.1, .int ym.2.2.2])), (ob, .inl (cZ, 5200, .inl bm.1)), (ok, .inl (cK, 600, .inl km.1))]) [0, 1, 2] rfl
    have hD9 := hD.sub (ws' := [(om, .inr (3, [.int v, .int st, .int lo, .ref ob, .int bm.2.1, .int bm.2.2.1, .int bm.2.2.2.1, .int bm.2.2.2.2, .ref ok, .int km.2, .int qm.1, .int qm.2.1, .int qm.2.2.1, .int qm.2.2.2, .int bd, .int ym.1, .int ym.2.1, .int ym.2.2.1, .int ym.2.2.2])), (ob, .inl (cZ, 5200, .inl bm.1)), (ok, .inl (cK, 600, .inl km.1))]) [0, 1, 2] (by decide) rfl
    exact W.iret (v := 0) hx hb hr (fun t ht hW => ⟨⟨0, (v, bm), rfl, ((plX3_put_l30_1 st lo th bm km qm bd ym p0 p1 v c_37).trans hz), by rw [ht]; exact hP9, hD9⟩, hS.F ht⟩) hS.2.2 dX3_put_41
set_option maxHeartbeats 4000000 in
set_option maxRecDepth 100000 in
theorem mX3_put (l : Launch) (dC : Nat → ClassId) (dI : Nat → Nat → Nat) (cZ cK : ClassId) (om ob ok : Nat) (sz : Nat) (st : Int32) (lo : Int32) (th : Int32) (bm : Bm) (km : Rw) (qm : Tk) (bd : Int32) (ym : Tk) (p0 : Int32) (p1 : Int32) (hW : wok bm 400) : Met l yX3_put (Cond.code yX3_put cX3_put 6 (some .int) :: G) ({ frames := 4, cells := 0, slots := 0, locals := 88 } : Room) (va_Pc [.ref om, .int p0, .int p1] (fun U => U.heap.size = sz ∧ va_P (dC, dI) vwCl [(om, .inr (3, [.int th, .int st, .int lo, .ref ob, .int bm.2.1, .int bm.2.2.1, .int bm.2.2.2.1, .int bm.2.2.2.2, .ref ok, .int km.2, .int qm.1, .int qm.2.1, .int qm.2.2.1, .int qm.2.2.2, .int bd, .int ym.1, .int ym.2.1, .int ym.2.2.1, .int ym.2.2.2])), (ob, .inl (cZ, 5200, .inl bm.1)), (ok, .inl (cK, 600, .inl km.1))] U.heap ∧ va_K (dC, dI) vwCl [(cZ, .boolean), (cK, .int)] U ∧ va_D (fun _ => True) [(om, .inr (3, [.int th, .int st, .int lo, .ref ob, .int bm.2.1, .int bm.2.2.1, .int bm.2.2.2.1, .int bm.2.2.2.2, .ref ok, .int km.2, .int qm.1, .int qm.2.1, .int qm.2.2.1, .int qm.2.2.2, .int bd, .int ym.1, .int ym.2.1, .int ym.2.2.1, .int ym.2.2.2])), (ob, .inl (cZ, 5200, .inl bm.1)), (ok, .inl (cK, 600, .inl km.1))] ∧ zOk U)) (va_Qi (fun (r : Int32) (u : Int32 × Bm) => (r, u) = (FX3_put st lo th bm km qm bd ym p0 p1)) (fun (u : Int32 × Bm) (t : State) => va_P (dC, dI) vwCl [(om, .inr (3, [.int u.1, .int st, .int lo, .ref ob, .int u.2.2.1, .int u.2.2.2.1, .int u.2.2.2.2.1, .int u.2.2.2.2.2, .ref ok, .int km.2, .int qm.1, .int qm.2.1, .int qm.2.2.1, .int qm.2.2.2, .int bd, .int ym.1, .int ym.2.1, .int ym.2.2.1, .int ym.2.2.2])), (ob, .inl (cZ, 5200, .inl u.2.1)), (ok, .inl (cK, 600, .inl km.1))] t.heap ∧ va_D (va_A [(om, .inr (3, [.int th, .int st, .int lo, .ref ob, .int bm.2.1, .int bm.2.2.1, .int bm.2.2.2.1, .int bm.2.2.2.2, .ref ok, .int km.2, .int qm.1, .int qm.2.1, .int qm.2.2.1, .int qm.2.2.2, .int bd, .int ym.1, .int ym.2.1, .int ym.2.2.1, .int ym.2.2.2])), (ob, .inl (cZ, 5200, .inl bm.1)), (ok, .inl (cK, 600, .inl km.1))] sz) [(om, .inr (3, [.int u.1, .int st, .int lo, .ref ob, .int u.2.2.1, .int u.2.2.2.1, .int u.2.2.2.2.1, .int u.2.2.2.2.2, .ref ok, .int km.2, .int qm.1, .int qm.2.1, .int qm.2.2.1, .int qm.2.2.2, .int bd, .int ym.1, .int ym.2.1, .int ym.2.2.1, .int ym.2.2.2])), (ob, .inl (cZ, 5200, .inl u.2.1)), (ok, .inl (cK, 600, .inl km.1))]) (va_A [(om, .inr (3, [.int th, .int st, .int lo, .ref ob, .int bm.2.1, .int bm.2.2.1, .int bm.2.2.2.1, .int bm.2.2.2.2, .ref ok, .int km.2, .int qm.1, .int qm.2.1, .int qm.2.2.1, .int qm.2.2.2, .int bd, .int ym.1, .int ym.2.1, .int ym.2.2.1, .int ym.2.2.2])), (ob, .inl (cZ, 5200, .inl bm.1)), (ok, .inl (cK, 600, .inl km.1))] sz)) 0 0 (va_A [(om, .inr (3, [.int th, .int st, .int lo, .ref ob, .int bm.2.1, .int bm.2.2.1, .int bm.2.2.2.1, .int bm.2.2.2.2, .ref ok, .int km.2, .int qm.1, .int qm.2.1, .int qm.2.2.1, .int qm.2.2.2, .int bd, .int ym.1, .int ym.2.1, .int ym.2.2.1, .int ym.2.2.2])), (ob, .inl (cZ, 5200, .inl bm.1)), (ok, .inl (cK, 600, .inl km.1))] sz) := by
  refine Met.ofW (cc := cX3_put) (maxL := 6) (ret := (some .int)) (by decide) rfl ?_
  intro p e s m args below meth c s₁ B hml hv
  obtain ⟨rfl, hsz, hP, hK, hD0, hZ⟩ := hv
  have hx := B.exec
  have hb := B.bytes
  have hr := B.returns
  have hts : ∀ w ∈ G, w.before [.ref om, .int p0, .int p1].toArray s = true := fun w h => atoms_spec (ws := (Cond.code yX3_put cX3_put 6 (some .int) :: G)) B.pre w (List.mem_cons_of_mem _ h)
  have hown : s.vm.findClass RX3 = some m.cls := findClass_of_methodNamed B.named
  have hlocks := B.notSynchronized
  subst hsz
  have hD := hD0.self (sz := s.heap.size)
  generalize hAe : va_A [(om, .inr (3, [.int th, .int st, .int lo, .ref ob, .int bm.2.1, .int bm.2.2.1, .int bm.2.2.2.1, .int bm.2.2.2.2, .ref ok, .int km.2, .int qm.1, .int qm.2.1, .int qm.2.2.1, .int qm.2.2.2, .int bd, .int ym.1, .int ym.2.1, .int ym.2.2.1, .int ym.2.2.2])), (ob, .inl (cZ, 5200, .inl bm.1)), (ok, .inl (cK, 600, .inl km.1))] s.heap.size = A at hD ⊢
  have hA : ∀ q : Nat, s.heap.size ≤ q → A q := fun q h => by rw [← hAe]; exact Or.inr h
  have hS : va_S A s.heap s.heap [] := va_S.rf
  have hP : va_P (dC, dI) vwCl [(om, .inr (3, [.int th, .int st, .int lo, .ref ob, .int bm.2.1, .int bm.2.2.1, .int bm.2.2.2.1, .int bm.2.2.2.2, .ref ok, .int km.2, .int qm.1, .int qm.2.1, .int qm.2.2.1, .int qm.2.2.2, .int bd, .int ym.1, .int ym.2.1, .int ym.2.2.1, .int ym.2.2.2])), (ob, .inl (cZ, 5200, .inl bm.1)), (ok, .inl (cK, 600, .inl km.1))] s.heap := hP
  have hl := lv_entry ([.ref om, .int p0, .int p1]) (n := 6) (Nat.le_of_ble_eq_true rfl)
  rw [lg_entry_eq]
  generalize (lg_sl ([.ref om, .int p0, .int p1]) ++ List.replicate (6 - (lg_sl ([.ref om, .int p0, .int p1])).length) Slot.unset).toArray = ls at hl ⊢
  have hl : lv_has ls 6 [(0, .ref om), (1, .int p0), (2, .int p1)] := hl
  refine lv_aload_n hx hb dX3_put_0 rfl (lv_at hl 0 rfl) ?_
  refine lv_iload_n hx hb dX3_put_1 rfl (lv_at hl 1 rfl) ?_
  refine lv_i2l (v := p0.toInt64) hx hb dX3_put_2 rfl ?_
  refine lv_lconst (v := 1) hx hb dX3_put_3 (by decide) ?_
  refine lv_ldc2 (v := 32) hx hb hown (hts _ wd504) dX3_put_4 ?_
  refine vp_callSi (va_Run.run (va_runS (As := [.long p0.toInt64, .long 1, .long 32]) (rest := [.ref om]) ⟨hx, hb, hml, hown, hts⟩ (mX3_isIn l dC dI p0.toInt64 1 32) (va_cwS 3 hts (gS wd505 wd506 wd30 wd507) rfl rfl rfl (by decide +kernel) ⟨Nat.le_of_ble_eq_true rfl, Nat.le_of_ble_eq_true rfl⟩) ⟨fb_nw, pre_nw hZ⟩ rfl rfl hl.1 rfl (lv_room (Nat.le_of_ble_eq_true rfl)) dX3_put_7 ⟨Nat.le_of_ble_eq_true rfl, Nat.le_of_ble_eq_true rfl⟩)) (fun r_1 hw_2 => ?_)
  refine lv_if_ne (tgt := 17) hx hb dX3_put_10 (by decide) (fun c_10 => ?_) (fun c_10 => ?_)
  · refine lv_aload_n hx hb dX3_put_17 rfl (lv_at hl 0 rfl) ?_
    refine lv_iload_n hx hb dX3_put_18 rfl (lv_at hl 1 rfl) ?_
    have hPc := hP.sub (ws' := [(om, .inr (3, [.int th, .int st, .int lo, .ref ob, .int bm.2.1, .int bm.2.2.1, .int bm.2.2.2.1, .int bm.2.2.2.2, .ref ok, .int km.2, .int qm.1, .int qm.2.1, .int qm.2.2.1, .int qm.2.2.2, .int bd, .int ym.1, .int ym.2.1, .int ym.2.2.1, .int ym.2.2.2])), (ob, .inl (cZ, 5200, .inl bm.1)), (ok, .inl (cK, 600, .inl km.1))]) [0, 1, 2] rfl
    have hKc := hK.sub (tys' := [(cZ, .boolean), (cK, .int)]) [0, 1] rfl
    refine vp_callSi (va_Run.run (va_runV (As := [.int p0]) (rest := [.ref om]) ⟨hx, hb, hml, hown, hts⟩ (mX3_isFull l dC dI cZ cK om ob ok st lo th bm km qm bd ym p0) (cwV 1 hts (gV wd508 wd509 wd11 wd30 wd510) rfl rfl rfl (by decide +kernel) ⟨Nat.le_of_ble_eq_true rfl, Nat.le_of_ble_eq_true rfl⟩) ⟨fb_ro, va_recv hKc hPc (ci := 3) (q0 := 0) rfl rfl, pre_ro hPc hKc hZ⟩ rfl rfl hl.1 rfl (lv_room (Nat.le_of_ble_eq_true rfl)) dX3_put_19 ⟨Nat.le_of_ble_eq_true rfl, Nat.le_of_ble_eq_true rfl⟩)) (fun r_3 hw_4 => ?_)
    refine lv_if_eq (tgt := 29) hx hb dX3_put_22 (by decide) (fun c_22 => ?_) (fun c_22 => ?_)
    · refine lv_iconst (v := 0) hx hb dX3_put_29 (by decide) ?_
      exact kX3_put_30 hx hb hr hml hown hts hlocks hA hZ hK  th bm km qm bd ym p0 p1 0 hW (by first | exact fun h => absurd h (by decide) | exact fun _ => in32 (by assumption) (by assumption)) (plX3_put_0 st lo th bm km qm bd ym p0 p1 _ hw_2 c_10 _ hw_4 c_22) _ _ (hP.sub (ws' := [(om, .inr (3, [.int th, .int st, .int lo, .ref ob, .int bm.2.1, .int bm.2.2.1, .int bm.2.2.2.1, .int bm.2.2.2.2, .ref ok, .int km.2, .int qm.1, .int qm.2.1, .int qm.2.2.1, .int qm.2.2.2, .int bd, .int ym.1, .int ym.2.1, .int ym.2.2.1, .int ym.2.2.2])), (ob, .inl (cZ, 5200, .inl bm.1)), (ok, .inl (cK, 600, .inl km.1))]) [0, 1, 2] rfl) (hD.sub (ws' := [(om, .inr (3, [.int th, .int st, .int lo, .ref ob, .int bm.2.1, .int bm.2.2.1, .int bm.2.2.2.1, .int bm.2.2.2.2, .ref ok, .int km.2, .int qm.1, .int qm.2.1, .int qm.2.2.1, .int qm.2.2.2, .int bd, .int ym.1, .int ym.2.1, .int ym.2.2.1, .int ym.2.2.2])), (ob, .inl (cZ, 5200, .inl bm.1)), (ok, .inl (cK, 600, .inl km.1))]) [0, 1, 2] (by decide) rfl) hS ls (lv_sub hl [0, 1, 2] rfl)
    · refine lv_iconst (v := 2) hx hb dX3_put_25 (by decide) ?_
      refine lv_goto (tgt := 30) hx hb dX3_put_26 (by decide) ?_
      exact kX3_put_30 hx hb hr hml hown hts hlocks hA hZ hK  th bm km qm bd ym p0 p1 2 hW (by first | exact fun h => absurd h (by decide) | exact fun _ => in32 (by assumption) (by assumption)) (plX3_put_1 st lo th bm km qm bd ym p0 p1 _ hw_2 c_10 _ hw_4 c_22) _ _ (hP.sub (ws' := [(om, .inr (3, [.int th, .int st, .int lo, .ref ob, .int bm.2.1, .int bm.2.2.1, .int bm.2.2.2.1, .int bm.2.2.2.2, .ref ok, .int km.2, .int qm.1, .int qm.2.1, .int qm.2.2.1, .int qm.2.2.2, .int bd, .int ym.1, .int ym.2.1, .int ym.2.2.1, .int ym.2.2.2])), (ob, .inl (cZ, 5200, .inl bm.1)), (ok, .inl (cK, 600, .inl km.1))]) [0, 1, 2] rfl) (hD.sub (ws' := [(om, .inr (3, [.int th, .int st, .int lo, .ref ob, .int bm.2.1, .int bm.2.2.1, .int bm.2.2.2.1, .int bm.2.2.2.2, .ref ok, .int km.2, .int qm.1, .int qm.2.1, .int qm.2.2.1, .int qm.2.2.2, .int bd, .int ym.1, .int ym.2.1, .int ym.2.2.1, .int ym.2.2.2])), (ob, .inl (cZ, 5200, .inl bm.1)), (ok, .inl (cK, 600, .inl km.1))]) [0, 1, 2] (by decide) rfl) hS ls (lv_sub hl [0, 1, 2] rfl)
  · refine lv_iconst (v := 1) hx hb dX3_put_13 (by decide) ?_
    refine lv_goto (tgt := 30) hx hb dX3_put_14 (by decide) ?_
    exact kX3_put_30 hx hb hr hml hown hts hlocks hA hZ hK  th bm km qm bd ym p0 p1 1 hW (by first | exact fun h => absurd h (by decide) | exact fun _ => in32 (by assumption) (by assumption)) (plX3_put_2 st lo th bm km qm bd ym p0 p1 _ hw_2 c_10) _ _ (hP.sub (ws' := [(om, .inr (3, [.int th, .int st, .int lo, .ref ob, .int bm.2.1, .int bm.2.2.1, .int bm.2.2.2.1, .int bm.2.2.2.2, .ref ok, .int km.2, .int qm.1, .int qm.2.1, .int qm.2.2.1, .int qm.2.2.2, .int bd, .int ym.1, .int ym.2.1, .int ym.2.2.1, .int ym.2.2.2])), (ob, .inl (cZ, 5200, .inl bm.1)), (ok, .inl (cK, 600, .inl km.1))]) [0, 1, 2] rfl) (hD.sub (ws' := [(om, .inr (3, [.int th, .int st, .int lo, .ref ob, .int bm.2.1, .int bm.2.2.1, .int bm.2.2.2.1, .int bm.2.2.2.2, .ref ok, .int km.2, .int qm.1, .int qm.2.1, .int qm.2.2.1, .int qm.2.2.2, .int bd, .int ym.1, .int ym.2.1, .int ym.2.2.1, .int ym.2.2.2])), (ob, .inl (cZ, 5200, .inl bm.1)), (ok, .inl (cK, 600, .inl km.1))]) [0, 1, 2] (by decide) rfl) hS ls (lv_sub hl [0, 1, 2] rfl)
def LX3_alignAll_2 (st : Int32) (lo : Int32) : Nat → Int32 → Bm → Rw → Tk → Int32 → Tk → Int32 → Int32 × Bm
  | 0, th, bm, km, qm, bd, ym, nn => (0, bm)
  | n + 1, th, bm, km, qm, bd, ym, nn =>
    if (bm.2.1 - bm.2.1 / 8 * 8) = 0 then
      if st = 1 then
        if bm.2.2.2.2 = 0 then
          (nn, bm)
        else
          let zhw_6 := FX3_putBit st lo th bm km qm bd ym 0
          let r_5 := zhw_6.1
          let u_7 := zhw_6.2
          let i_8 := nn + 1
          LX3_alignAll_2 st lo n th u_7 km qm bd ym i_8
      else
        (nn, bm)
    else
      let zhw_2 := FX3_putBit st lo th bm km qm bd ym 0
      let r_1 := zhw_2.1
      let u_3 := zhw_2.2
      let i_4 := nn + 1
      LX3_alignAll_2 st lo n th u_3 km qm bd ym i_4
def FX3_alignAll (st : Int32) (lo : Int32) (th : Int32) (bm : Bm) (km : Rw) (qm : Tk) (bd : Int32) (ym : Tk) : Int32 × Bm :=
  LX3_alignAll_2 st lo 17 th bm km qm bd ym 0
set_option maxRecDepth 100000 in
theorem plX3_alignAll_l2_0 (st : Int32) (lo : Int32) (n : Nat) (th : Int32) (bm : Bm) (km : Rw) (qm : Tk) (bd : Int32) (ym : Tk) (nn : Int32) (c_9 : ¬ ((bm.2.1 - bm.2.1 / 8 * 8) = 0)) (r_1 : Int32) (u_3 : Bm) (hw_2 : (r_1, u_3) = FX3_putBit st lo th bm km qm bd ym 0) (i_4 : Int32) (ei_4 : i_4 = nn + 1) : LX3_alignAll_2 st lo n th u_3 km qm bd ym i_4 = LX3_alignAll_2 st lo (n + 1) th bm km qm bd ym nn := by
  have q0 := congrArg (fun z => z.1) hw_2
  have q1 := congrArg (fun z => z.2) hw_2
  dsimp only at q0 q1
  subst q0
  subst q1
  clear hw_2
  subst ei_4
  exact (if_neg c_9).symm
set_option maxRecDepth 100000 in
theorem plX3_alignAll_l2_1 (st : Int32) (lo : Int32) (n : Nat) (th : Int32) (bm : Bm) (km : Rw) (qm : Tk) (bd : Int32) (ym : Tk) (nn : Int32) (c_9 : (bm.2.1 - bm.2.1 / 8 * 8) = 0) (c_17 : ¬ (st = 1)) : (nn, bm) = LX3_alignAll_2 st lo (n + 1) th bm km qm bd ym nn := by
  exact ((if_pos c_9).trans (if_neg c_17)).symm
set_option maxRecDepth 100000 in
theorem plX3_alignAll_l2_2 (st : Int32) (lo : Int32) (n : Nat) (th : Int32) (bm : Bm) (km : Rw) (qm : Tk) (bd : Int32) (ym : Tk) (nn : Int32) (c_9 : (bm.2.1 - bm.2.1 / 8 * 8) = 0) (c_17 : st = 1) (c_24 : bm.2.2.2.2 = 0) : (nn, bm) = LX3_alignAll_2 st lo (n + 1) th bm km qm bd ym nn := by
  exact (((if_pos c_9).trans (if_pos c_17)).trans (if_pos c_24)).symm
set_option maxRecDepth 100000 in
theorem plX3_alignAll_l2_3 (st : Int32) (lo : Int32) (n : Nat) (th : Int32) (bm : Bm) (km : Rw) (qm : Tk) (bd : Int32) (ym : Tk) (nn : Int32) (c_9 : (bm.2.1 - bm.2.1 / 8 * 8) = 0) (c_17 : st = 1) (c_24 : ¬ (bm.2.2.2.2 = 0)) (r_5 : Int32) (u_7 : Bm) (hw_6 : (r_5, u_7) = FX3_putBit st lo th bm km qm bd ym 0) (i_8 : Int32) (ei_8 : i_8 = nn + 1) : LX3_alignAll_2 st lo n th u_7 km qm bd ym i_8 = LX3_alignAll_2 st lo (n + 1) th bm km qm bd ym nn := by
  have q0 := congrArg (fun z => z.1) hw_6
  have q1 := congrArg (fun z => z.2) hw_6
  dsimp only at q0 q1
  subst q0
  subst q1
  clear hw_6
  subst ei_8
  exact (((if_pos c_9).trans (if_pos c_17)).trans (if_neg c_24)).symm
set_option maxRecDepth 100000 in
theorem plX3_alignAll_0 (st : Int32) (lo : Int32) (th : Int32) (bm : Bm) (km : Rw) (qm : Tk) (bd : Int32) (ym : Tk)  : LX3_alignAll_2 st lo 17 th bm km qm bd ym 0 = FX3_alignAll st lo th bm km qm bd ym := by
  exact rfl
set_option maxHeartbeats 4000000 in
set_option maxRecDepth 100000 in
theorem kX3_alignAll_2 {p : Program} {l : Launch} {e : Env} {s : State} {m : MethodId} {args : Array Value} {below : List Frame} {meth : Method} {c : Code} {dC : Nat → ClassId} {dI : Nat → Nat → Nat} {cZ cK : ClassId} {om ob ok : Nat} {st : Int32} {lo : Int32} {z : Int32 × Bm} {A : Nat → Prop} (hx : p.tables.exec = Jvm.exec) (hb : c.code = cX3_alignAll) (hr : meth.sig.returnType = (some .int)) (hml : c.maxLocals = 3) (hown : s.vm.findClass RX3 = some m.cls) (hts : ∀ w ∈ G, w.before args s = true) (hlocks : meth.locks = false) (hA : ∀ q : Nat, s.heap.size ≤ q → A q) (hZ : zOk s) (hK : va_K (dC, dI) vwCl [(cZ, .boolean), (cK, .int)] s) : ∀ (n : Nat) (th : Int32) (bm : Bm) (km : Rw) (qm : Tk) (bd : Int32) (ym : Tk) (nn : Int32), (alE st lo n th bm km qm bd ym) → LX3_alignAll_2 st lo n th bm km qm bd ym nn = z → ∀ (H : Heap) (locs : List Loc), va_P (dC, dI) vwCl [(om, .inr (3, [.int th, .int st, .int lo, .ref ob, .int bm.2.1, .int bm.2.2.1, .int bm.2.2.2.1, .int bm.2.2.2.2, .ref ok, .int km.2, .int qm.1, .int qm.2.1, .int qm.2.2.1, .int qm.2.2.2, .int bd, .int ym.1, .int ym.2.1, .int ym.2.2.1, .int ym.2.2.2])), (ob, .inl (cZ, 5200, .inl bm.1)), (ok, .inl (cK, 600, .inl km.1))] H → va_D A [(om, .inr (3, [.int th, .int st, .int lo, .ref ob, .int bm.2.1, .int bm.2.2.1, .int bm.2.2.2.1, .int bm.2.2.2.2, .ref ok, .int km.2, .int qm.1, .int qm.2.1, .int qm.2.2.1, .int qm.2.2.2, .int bd, .int ym.1, .int ym.2.1, .int ym.2.2.1, .int ym.2.2.2])), (ob, .inl (cZ, 5200, .inl bm.1)), (ok, .inl (cK, 600, .inl km.1))] → va_S A s.heap H locs → ∀ (ls : Array Slot), lv_has ls 3 [(0, .ref om), (1, .int nn)] → W p l e (headSpec (Cond.code yX3_alignAll cX3_alignAll 3 (some .int) :: G) ({ frames := 4, cells := 0, slots := 0, locals := 88 } : Room)).room s m args below meth c H locs 0 0 (MQ below (va_Qi (fun (r : Int32) (u : Bm) => (r, u) = z) (fun (u : Bm) (t : State) => va_P (dC, dI) vwCl [(om, .inr (3, [.int th, .int st, .int lo, .ref ob, .int u.2.1, .int u.2.2.1, .int u.2.2.2.1, .int u.2.2.2.2, .ref ok, .int km.2, .int qm.1, .int qm.2.1, .int qm.2.2.1, .int qm.2.2.2, .int bd, .int ym.1, .int ym.2.1, .int ym.2.2.1, .int ym.2.2.2])), (ob, .inl (cZ, 5200, .inl u.1)), (ok, .inl (cK, 600, .inl km.1))] t.heap ∧ va_D A [(om, .inr (3, [.int th, .int st, .int lo, .ref ob, .int u.2.1, .int u.2.2.1, .int u.2.2.2.1, .int u.2.2.2.2, .ref ok, .int km.2, .int qm.1, .int qm.2.1, .int qm.2.2.1, .int qm.2.2.2, .int bd, .int ym.1, .int ym.2.1, .int ym.2.2.1, .int ym.2.2.2])), (ob, .inl (cZ, 5200, .inl u.1)), (ok, .inl (cK, 600, .inl km.1))]) A) args s 0 0 A) (F0 m 2 ls []) := by
  intro n
  induction n with
  | zero =>
    intro th bm km qm bd ym nn hf hz
    exact absurd hf (fun h => h)
  | succ n ih =>
    intro th bm km qm bd ym nn hf hz H locs hP hD hS ls hl
    refine lv_aload_n hx hb dX3_alignAll_2 rfl (lv_at hl 0 rfl) ?_
    refine va_get (D := (dC, dI)) (ci := 3) (v := .int bm.2.1) (C := RX3) (T := TX3) (N := 19) hx hb hts inGX3 hown hK hP 0 rfl rfl 4 (by decide) (hts _ wd441) (fun _ h9 => h9) rfl dX3_alignAll_3 ?_
    refine lv_bipush (v := 8) hx hb dX3_alignAll_6 (by decide) ?_
    refine lv_irem hx hb dX3_alignAll_8 (by decide) ?_
    refine lv_if_ne (tgt := 27) hx hb dX3_alignAll_9 (by decide) (fun c_9 => ?_) (fun c_9 => ?_)
    · refine lv_aload_n hx hb dX3_alignAll_27 rfl (lv_at hl 0 rfl) ?_
      refine lv_iconst (v := 0) hx hb dX3_alignAll_28 (by decide) ?_
      have hPc := hP.sub (ws' := [(om, .inr (3, [.int th, .int st, .int lo, .ref ob, .int bm.2.1, .int bm.2.2.1, .int bm.2.2.2.1, .int bm.2.2.2.2, .ref ok, .int km.2, .int qm.1, .int qm.2.1, .int qm.2.2.1, .int qm.2.2.2, .int bd, .int ym.1, .int ym.2.1, .int ym.2.2.1, .int ym.2.2.2])), (ob, .inl (cZ, 5200, .inl bm.1)), (ok, .inl (cK, 600, .inl km.1))]) [0, 1, 2] rfl
      have hKc := hK.sub (tys' := [(cZ, .boolean), (cK, .int)]) [0, 1] rfl
      have hDc := hD.sub (ws' := [(om, .inr (3, [.int th, .int st, .int lo, .ref ob, .int bm.2.1, .int bm.2.2.1, .int bm.2.2.2.1, .int bm.2.2.2.2, .ref ok, .int km.2, .int qm.1, .int qm.2.1, .int qm.2.2.1, .int qm.2.2.2, .int bd, .int ym.1, .int ym.2.1, .int ym.2.2.1, .int ym.2.2.2])), (ob, .inl (cZ, 5200, .inl bm.1)), (ok, .inl (cK, 600, .inl km.1))]) [0, 1, 2] (by decide) rfl
      have hFc := va_free (wc := [(om, .inr (3, [.int th, .int st, .int lo, .ref ob, .int bm.2.1, .int bm.2.2.1, .int bm.2.2.2.1, .int bm.2.2.2.2, .ref ok, .int km.2, .int qm.1, .int qm.2.1, .int qm.2.2.1, .int qm.2.2.2, .int bd, .int ym.1, .int ym.2.1, .int ym.2.2.1, .int ym.2.2.2])), (ob, .inl (cZ, 5200, .inl bm.1)), (ok, .inl (cK, 600, .inl km.1))]) hD hS hA [0, 1, 2] rfl
      refine va_calli (va_runV (As := [.int 0]) (rest := []) ⟨hx, hb, hml, hown, hts⟩ (mX3_putBit l dC dI cZ cK om ob ok H.size st lo th bm km qm bd ym 0 (wok_mono hf.1 (by decide))) (cwV 1 hts (gV wd511 wd512 wd12 wd30 wd513) rfl rfl rfl (by decide +kernel) ⟨Nat.le_of_ble_eq_true rfl, Nat.le_of_ble_eq_true rfl⟩) ⟨fb_rw, va_recv hKc hPc (ci := 3) (q0 := 0) rfl rfl, pre_rw hPc hKc hDc hZ⟩ rfl rfl hl.1 rfl (lv_room (Nat.le_of_ble_eq_true rfl)) dX3_alignAll_29 ⟨Nat.le_of_ble_eq_true rfl, Nat.le_of_ble_eq_true rfl⟩) hS (fun q _ h => hFc q h) hFc (fun r_1 u_3 t H1 locs ht hvm hw_2 hB hz1 hk1 hS => ?_)
      obtain ⟨hP1, hD1⟩ := hB
      rw [ht] at hP1
      obtain ⟨hP, hD⟩ := va_join (wr := []) (w1 := [(om, .inr (3, [.int th, .int st, .int lo, .ref ob, .int u_3.2.1, .int u_3.2.2.1, .int u_3.2.2.2.1, .int u_3.2.2.2.2, .ref ok, .int km.2, .int qm.1, .int qm.2.1, .int qm.2.2.1, .int qm.2.2.2, .int bd, .int ym.1, .int ym.2.1, .int ym.2.2.1, .int ym.2.2.2])), (ob, .inl (cZ, 5200, .inl u_3.1)), (ok, .inl (cK, 600, .inl km.1))]) hP hD [0, 1, 2] [] rfl rfl (by decide) (by decide) hk1 hFc hP1 hD1
      generalize H1 = H at hP hS ⊢
      have hP : va_P (dC, dI) vwCl [(om, .inr (3, [.int th, .int st, .int lo, .ref ob, .int u_3.2.1, .int u_3.2.2.1, .int u_3.2.2.2.1, .int u_3.2.2.2.2, .ref ok, .int km.2, .int qm.1, .int qm.2.1, .int qm.2.2.1, .int qm.2.2.2, .int bd, .int ym.1, .int ym.2.1, .int ym.2.2.1, .int ym.2.2.2])), (ob, .inl (cZ, 5200, .inl u_3.1)), (ok, .inl (cK, 600, .inl km.1))] H := hP
      have hD : va_D A [(om, .inr (3, [.int th, .int st, .int lo, .ref ob, .int u_3.2.1, .int u_3.2.2.1, .int u_3.2.2.2.1, .int u_3.2.2.2.2, .ref ok, .int km.2, .int qm.1, .int qm.2.1, .int qm.2.2.1, .int qm.2.2.2, .int bd, .int ym.1, .int ym.2.1, .int ym.2.2.1, .int ym.2.2.2])), (ob, .inl (cZ, 5200, .inl u_3.1)), (ok, .inl (cK, 600, .inl km.1))] := hD
      refine lv_istore_n (lv' := [(2, .int r_1), (0, .ref om), (1, .int nn)]) hx hb dX3_alignAll_32 rfl hl (by decide) rfl (fun ls hl => ?_)
      obtain ⟨i_4, ei_4⟩ : ∃ y : Int32, y = nn + 1 := ⟨_, rfl⟩
      refine lv_iinc (v := i_4) (lv' := [(1, .int i_4), (2, .int r_1), (0, .ref om)]) hx hb dX3_alignAll_33 hl (k := 2) rfl (by rw [ei_4]; rfl) (by decide) rfl (fun ls hl => ?_)
      refine lv_goto (tgt := 2) hx hb dX3_alignAll_36 (by decide) ?_
      exact ih th u_3 km qm bd ym i_4 (by first | exact al_back hf (Or.inl c_9) (by assumption) | exact al_back hf (Or.inr ⟨c_17, c_24⟩) (by assumption)) ((plX3_alignAll_l2_0 st lo n th bm km qm bd ym nn c_9 _ _ hw_2 _ ei_4).trans hz) _ _ (hP.sub (ws' := [(om, .inr (3, [.int th, .int st, .int lo, .ref ob, .int u_3.2.1, .int u_3.2.2.1, .int u_3.2.2.2.1, .int u_3.2.2.2.2, .ref ok, .int km.2, .int qm.1, .int qm.2.1, .int qm.2.2.1, .int qm.2.2.2, .int bd, .int ym.1, .int ym.2.1, .int ym.2.2.1, .int ym.2.2.2])), (ob, .inl (cZ, 5200, .inl u_3.1)), (ok, .inl (cK, 600, .inl km.1))]) [0, 1, 2] rfl) (hD.sub (ws' := [(om, .inr (3, [.int th, .int st, .int lo, .ref ob, .int u_3.2.1, .int u_3.2.2.1, .int u_3.2.2.2.1, .int u_3.2.2.2.2, .ref ok, .int km.2, .int qm.1, .int qm.2.1, .int qm.2.2.1, .int qm.2.2.2, .int bd, .int ym.1, .int ym.2.1, .int ym.2.2.1, .int ym.2.2.2])), (ob, .inl (cZ, 5200, .inl u_3.1)), (ok, .inl (cK, 600, .inl km.1))]) [0, 1, 2] (by decide) rfl) hS ls (lv_sub hl [2, 0] rfl)
    · refine lv_aload_n hx hb dX3_alignAll_12 rfl (lv_at hl 0 rfl) ?_
      refine va_get (D := (dC, dI)) (ci := 3) (v := .int st) (C := RX3) (T := TX3) (N := 19) hx hb hts inGX3 hown hK hP 0 rfl rfl 1 (by decide) (hts _ wd438) (fun _ h9 => h9) rfl dX3_alignAll_13 ?_
      refine lv_iconst (v := 1) hx hb dX3_alignAll_16 (by decide) ?_
      refine lv_icmp_ne (tgt := 39) hx hb dX3_alignAll_17 (by decide) (fun c_17 => ?_) (fun c_17 => ?_)
      · refine lv_iload_n hx hb dX3_alignAll_39 rfl (lv_at hl 1 rfl) ?_
        have hP9 := hP.sub (ws' := [(om, .inr (3, [.int th, .int st, .int lo, .ref ob, .int bm.2.1, .int bm.2.2.1, .int bm.2.2.2.1, .int bm.2.2.2.2, .ref ok, .int km.2, .int qm.1, .int qm.2.1, .int qm.2.2.1, .int qm.2.2.2, .int bd, .int ym.1, .int ym.2.1, .int ym.2.2.1, .int ym.2.2.2])), (ob, .inl (cZ, 5200, .inl bm.1)), (ok, .inl (cK, 600, .inl km.1))]) [0, 1, 2] rfl
        have hD9 := hD.sub (ws' := [(om, .inr (3, [.int th, .int st, .int lo, .ref ob, .int bm.2.1, .int bm.2.2.1, .int bm.2.2.2.1, .int bm.2.2.2.2, .ref ok, .int km.2, .int qm.1, .int qm.2.1, .int qm.2.2.1, .int qm.2.2.2, .int bd, .int ym.1, .int ym.2.1, .int ym.2.2.1, .int ym.2.2.2])), (ob, .inl (cZ, 5200, .inl bm.1)), (ok, .inl (cK, 600, .inl km.1))]) [0, 1, 2] (by decide) rfl
        exact W.iret (v := nn) hx hb hr (fun t ht hW => ⟨⟨nn, bm, rfl, ((plX3_alignAll_l2_1 st lo n th bm km qm bd ym nn c_9 c_17).trans hz), by rw [ht]; exact hP9, hD9⟩, hS.F ht⟩) hS.2.2 dX3_alignAll_40
      · refine lv_aload_n hx hb dX3_alignAll_20 rfl (lv_at hl 0 rfl) ?_
        refine va_get (D := (dC, dI)) (ci := 3) (v := .int bm.2.2.2.2) (C := RX3) (T := TX3) (N := 19) hx hb hts inGX3 hown hK hP 0 rfl rfl 7 (by decide) (hts _ wd444) (fun _ h9 => h9) rfl dX3_alignAll_21 ?_
        refine lv_if_eq (tgt := 39) hx hb dX3_alignAll_24 (by decide) (fun c_24 => ?_) (fun c_24 => ?_)
        · refine lv_iload_n hx hb dX3_alignAll_39 rfl (lv_at hl 1 rfl) ?_
          have hP9 := hP.sub (ws' := [(om, .inr (3, [.int th, .int st, .int lo, .ref ob, .int bm.2.1, .int bm.2.2.1, .int bm.2.2.2.1, .int bm.2.2.2.2, .ref ok, .int km.2, .int qm.1, .int qm.2.1, .int qm.2.2.1, .int qm.2.2.2, .int bd, .int ym.1, .int ym.2.1, .int ym.2.2.1, .int ym.2.2.2])), (ob, .inl (cZ, 5200, .inl bm.1)), (ok, .inl (cK, 600, .inl km.1))]) [0, 1, 2] rfl
          have hD9 := hD.sub (ws' := [(om, .inr (3, [.int th, .int st, .int lo, .ref ob, .int bm.2.1, .int bm.2.2.1, .int bm.2.2.2.1, .int bm.2.2.2.2, .ref ok, .int km.2, .int qm.1, .int qm.2.1, .int qm.2.2.1, .int qm.2.2.2, .int bd, .int ym.1, .int ym.2.1, .int ym.2.2.1, .int ym.2.2.2])), (ob, .inl (cZ, 5200, .inl bm.1)), (ok, .inl (cK, 600, .inl km.1))]) [0, 1, 2] (by decide) rfl
          exact W.iret (v := nn) hx hb hr (fun t ht hW => ⟨⟨nn, bm, rfl, ((plX3_alignAll_l2_2 st lo n th bm km qm bd ym nn c_9 c_17 c_24).trans hz), by rw [ht]; exact hP9, hD9⟩, hS.F ht⟩) hS.2.2 dX3_alignAll_40
        · refine lv_aload_n hx hb dX3_alignAll_27 rfl (lv_at hl 0 rfl) ?_
          refine lv_iconst (v := 0) hx hb dX3_alignAll_28 (by decide) ?_
          have hPc := hP.sub (ws' := [(om, .inr (3, [.int th, .int st, .int lo, .ref ob, .int bm.2.1, .int bm.2.2.1, .int bm.2.2.2.1, .int bm.2.2.2.2, .ref ok, .int km.2, .int qm.1, .int qm.2.1, .int qm.2.2.1, .int qm.2.2.2, .int bd, .int ym.1, .int ym.2.1, .int ym.2.2.1, .int ym.2.2.2])), (ob, .inl (cZ, 5200, .inl bm.1)), (ok, .inl (cK, 600, .inl km.1))]) [0, 1, 2] rfl
          have hKc := hK.sub (tys' := [(cZ, .boolean), (cK, .int)]) [0, 1] rfl
          have hDc := hD.sub (ws' := [(om, .inr (3, [.int th, .int st, .int lo, .ref ob, .int bm.2.1, .int bm.2.2.1, .int bm.2.2.2.1, .int bm.2.2.2.2, .ref ok, .int km.2, .int qm.1, .int qm.2.1, .int qm.2.2.1, .int qm.2.2.2, .int bd, .int ym.1, .int ym.2.1, .int ym.2.2.1, .int ym.2.2.2])), (ob, .inl (cZ, 5200, .inl bm.1)), (ok, .inl (cK, 600, .inl km.1))]) [0, 1, 2] (by decide) rfl
          have hFc := va_free (wc := [(om, .inr (3, [.int th, .int st, .int lo, .ref ob, .int bm.2.1, .int bm.2.2.1, .int bm.2.2.2.1, .int bm.2.2.2.2, .ref ok, .int km.2, .int qm.1, .int qm.2.1, .int qm.2.2.1, .int qm.2.2.2, .int bd, .int ym.1, .int ym.2.1, .int ym.2.2.1, .int ym.2.2.2])), (ob, .inl (cZ, 5200, .inl bm.1)), (ok, .inl (cK, 600, .inl km.1))]) hD hS hA [0, 1, 2] rfl
          refine va_calli (va_runV (As := [.int 0]) (rest := []) ⟨hx, hb, hml, hown, hts⟩ (mX3_putBit l dC dI cZ cK om ob ok H.size st lo th bm km qm bd ym 0 (wok_mono hf.1 (by decide))) (cwV 1 hts (gV wd511 wd512 wd12 wd30 wd513) rfl rfl rfl (by decide +kernel) ⟨Nat.le_of_ble_eq_true rfl, Nat.le_of_ble_eq_true rfl⟩) ⟨fb_rw, va_recv hKc hPc (ci := 3) (q0 := 0) rfl rfl, pre_rw hPc hKc hDc hZ⟩ rfl rfl hl.1 rfl (lv_room (Nat.le_of_ble_eq_true rfl)) dX3_alignAll_29 ⟨Nat.le_of_ble_eq_true rfl, Nat.le_of_ble_eq_true rfl⟩) hS (fun q _ h => hFc q h) hFc (fun r_5 u_7 t H1 locs ht hvm hw_6 hB hz1 hk1 hS => ?_)
          obtain ⟨hP1, hD1⟩ := hB
          rw [ht] at hP1
          obtain ⟨hP, hD⟩ := va_join (wr := []) (w1 := [(om, .inr (3, [.int th, .int st, .int lo, .ref ob, .int u_7.2.1, .int u_7.2.2.1, .int u_7.2.2.2.1, .int u_7.2.2.2.2, .ref ok, .int km.2, .int qm.1, .int qm.2.1, .int qm.2.2.1, .int qm.2.2.2, .int bd, .int ym.1, .int ym.2.1, .int ym.2.2.1, .int ym.2.2.2])), (ob, .inl (cZ, 5200, .inl u_7.1)), (ok, .inl (cK, 600, .inl km.1))]) hP hD [0, 1, 2] [] rfl rfl (by decide) (by decide) hk1 hFc hP1 hD1
          generalize H1 = H at hP hS ⊢
          have hP : va_P (dC, dI) vwCl [(om, .inr (3, [.int th, .int st, .int lo, .ref ob, .int u_7.2.1, .int u_7.2.2.1, .int u_7.2.2.2.1, .int u_7.2.2.2.2, .ref ok, .int km.2, .int qm.1, .int qm.2.1, .int qm.2.2.1, .int qm.2.2.2, .int bd, .int ym.1, .int ym.2.1, .int ym.2.2.1, .int ym.2.2.2])), (ob, .inl (cZ, 5200, .inl u_7.1)), (ok, .inl (cK, 600, .inl km.1))] H := hP
          have hD : va_D A [(om, .inr (3, [.int th, .int st, .int lo, .ref ob, .int u_7.2.1, .int u_7.2.2.1, .int u_7.2.2.2.1, .int u_7.2.2.2.2, .ref ok, .int km.2, .int qm.1, .int qm.2.1, .int qm.2.2.1, .int qm.2.2.2, .int bd, .int ym.1, .int ym.2.1, .int ym.2.2.1, .int ym.2.2.2])), (ob, .inl (cZ, 5200, .inl u_7.1)), (ok, .inl (cK, 600, .inl km.1))] := hD
          refine lv_istore_n (lv' := [(2, .int r_5), (0, .ref om), (1, .int nn)]) hx hb dX3_alignAll_32 rfl hl (by decide) rfl (fun ls hl => ?_)
          obtain ⟨i_8, ei_8⟩ : ∃ y : Int32, y = nn + 1 := ⟨_, rfl⟩
          refine lv_iinc (v := i_8) (lv' := [(1, .int i_8), (2, .int r_5), (0, .ref om)]) hx hb dX3_alignAll_33 hl (k := 2) rfl (by rw [ei_8]; rfl) (by decide) rfl (fun ls hl => ?_)
          refine lv_goto (tgt := 2) hx hb dX3_alignAll_36 (by decide) ?_
          exact ih th u_7 km qm bd ym i_8 (by first | exact al_back hf (Or.inl c_9) (by assumption) | exact al_back hf (Or.inr ⟨c_17, c_24⟩) (by assumption)) ((plX3_alignAll_l2_3 st lo n th bm km qm bd ym nn c_9 c_17 c_24 _ _ hw_6 _ ei_8).trans hz) _ _ (hP.sub (ws' := [(om, .inr (3, [.int th, .int st, .int lo, .ref ob, .int u_7.2.1, .int u_7.2.2.1, .int u_7.2.2.2.1, .int u_7.2.2.2.2, .ref ok, .int km.2, .int qm.1, .int qm.2.1, .int qm.2.2.1, .int qm.2.2.2, .int bd, .int ym.1, .int ym.2.1, .int ym.2.2.1, .int ym.2.2.2])), (ob, .inl (cZ, 5200, .inl u_7.1)), (ok, .inl (cK, 600, .inl km.1))]) [0, 1, 2] rfl) (hD.sub (ws' := [(om, .inr (3, [.int th, .int st, .int lo, .ref ob, .int u_7.2.1, .int u_7.2.2.1, .int u_7.2.2.2.1, .int u_7.2.2.2.2, .ref ok, .int km.2, .int qm.1, .int qm.2.1, .int qm.2.2.1, .int qm.2.2.2, .int bd, .int ym.1, .int ym.2.1, .int ym.2.2.1, .int ym.2.2.2])), (ob, .inl (cZ, 5200, .inl u_7.1)), (ok, .inl (cK, 600, .inl km.1))]) [0, 1, 2] (by decide) rfl) hS ls (lv_sub hl [2, 0] rfl)
set_option maxHeartbeats 4000000 in
set_option maxRecDepth 100000 in
theorem mX3_alignAll (l : Launch) (dC : Nat → ClassId) (dI : Nat → Nat → Nat) (cZ cK : ClassId) (om ob ok : Nat) (sz : Nat) (st : Int32) (lo : Int32) (th : Int32) (bm : Bm) (km : Rw) (qm : Tk) (bd : Int32) (ym : Tk) (hf : alE st lo 17 th bm km qm bd ym) : Met l yX3_alignAll (Cond.code yX3_alignAll cX3_alignAll 3 (some .int) :: G) ({ frames := 4, cells := 0, slots := 0, locals := 88 } : Room) (va_Pc [.ref om] (fun U => U.heap.size = sz ∧ va_P (dC, dI) vwCl [(om, .inr (3, [.int th, .int st, .int lo, .ref ob, .int bm.2.1, .int bm.2.2.1, .int bm.2.2.2.1, .int bm.2.2.2.2, .ref ok, .int km.2, .int qm.1, .int qm.2.1, .int qm.2.2.1, .int qm.2.2.2, .int bd, .int ym.1, .int ym.2.1, .int ym.2.2.1, .int ym.2.2.2])), (ob, .inl (cZ, 5200, .inl bm.1)), (ok, .inl (cK, 600, .inl km.1))] U.heap ∧ va_K (dC, dI) vwCl [(cZ, .boolean), (cK, .int)] U ∧ va_D (fun _ => True) [(om, .inr (3, [.int th, .int st, .int lo, .ref ob, .int bm.2.1, .int bm.2.2.1, .int bm.2.2.2.1, .int bm.2.2.2.2, .ref ok, .int km.2, .int qm.1, .int qm.2.1, .int qm.2.2.1, .int qm.2.2.2, .int bd, .int ym.1, .int ym.2.1, .int ym.2.2.1, .int ym.2.2.2])), (ob, .inl (cZ, 5200, .inl bm.1)), (ok, .inl (cK, 600, .inl km.1))] ∧ zOk U)) (va_Qi (fun (r : Int32) (u : Bm) => (r, u) = (FX3_alignAll st lo th bm km qm bd ym)) (fun (u : Bm) (t : State) => va_P (dC, dI) vwCl [(om, .inr (3, [.int th, .int st, .int lo, .ref ob, .int u.2.1, .int u.2.2.1, .int u.2.2.2.1, .int u.2.2.2.2, .ref ok, .int km.2, .int qm.1, .int qm.2.1, .int qm.2.2.1, .int qm.2.2.2, .int bd, .int ym.1, .int ym.2.1, .int ym.2.2.1, .int ym.2.2.2])), (ob, .inl (cZ, 5200, .inl u.1)), (ok, .inl (cK, 600, .inl km.1))] t.heap ∧ va_D (va_A [(om, .inr (3, [.int th, .int st, .int lo, .ref ob, .int bm.2.1, .int bm.2.2.1, .int bm.2.2.2.1, .int bm.2.2.2.2, .ref ok, .int km.2, .int qm.1, .int qm.2.1, .int qm.2.2.1, .int qm.2.2.2, .int bd, .int ym.1, .int ym.2.1, .int ym.2.2.1, .int ym.2.2.2])), (ob, .inl (cZ, 5200, .inl bm.1)), (ok, .inl (cK, 600, .inl km.1))] sz) [(om, .inr (3, [.int th, .int st, .int lo, .ref ob, .int u.2.1, .int u.2.2.1, .int u.2.2.2.1, .int u.2.2.2.2, .ref ok, .int km.2, .int qm.1, .int qm.2.1, .int qm.2.2.1, .int qm.2.2.2, .int bd, .int ym.1, .int ym.2.1, .int ym.2.2.1, .int ym.2.2.2])), (ob, .inl (cZ, 5200, .inl u.1)), (ok, .inl (cK, 600, .inl km.1))]) (va_A [(om, .inr (3, [.int th, .int st, .int lo, .ref ob, .int bm.2.1, .int bm.2.2.1, .int bm.2.2.2.1, .int bm.2.2.2.2, .ref ok, .int km.2, .int qm.1, .int qm.2.1, .int qm.2.2.1, .int qm.2.2.2, .int bd, .int ym.1, .int ym.2.1, .int ym.2.2.1, .int ym.2.2.2])), (ob, .inl (cZ, 5200, .inl bm.1)), (ok, .inl (cK, 600, .inl km.1))] sz)) 0 0 (va_A [(om, .inr (3, [.int th, .int st, .int lo, .ref ob, .int bm.2.1, .int bm.2.2.1, .int bm.2.2.2.1, .int bm.2.2.2.2, .ref ok, .int km.2, .int qm.1, .int qm.2.1, .int qm.2.2.1, .int qm.2.2.2, .int bd, .int ym.1, .int ym.2.1, .int ym.2.2.1, .int ym.2.2.2])), (ob, .inl (cZ, 5200, .inl bm.1)), (ok, .inl (cK, 600, .inl km.1))] sz) := by
  refine Met.ofW (cc := cX3_alignAll) (maxL := 3) (ret := (some .int)) (by decide) rfl ?_
  intro p e s m args below meth c s₁ B hml hv
  obtain ⟨rfl, hsz, hP, hK, hD0, hZ⟩ := hv
  have hx := B.exec
  have hb := B.bytes
  have hr := B.returns
  have hts : ∀ w ∈ G, w.before [.ref om].toArray s = true := fun w h => atoms_spec (ws := (Cond.code yX3_alignAll cX3_alignAll 3 (some .int) :: G)) B.pre w (List.mem_cons_of_mem _ h)
  have hown : s.vm.findClass RX3 = some m.cls := findClass_of_methodNamed B.named
  have hlocks := B.notSynchronized
  subst hsz
  have hD := hD0.self (sz := s.heap.size)
  generalize hAe : va_A [(om, .inr (3, [.int th, .int st, .int lo, .ref ob, .int bm.2.1, .int bm.2.2.1, .int bm.2.2.2.1, .int bm.2.2.2.2, .ref ok, .int km.2, .int qm.1, .int qm.2.1, .int qm.2.2.1, .int qm.2.2.2, .int bd, .int ym.1, .int ym.2.1, .int ym.2.2.1, .int ym.2.2.2])), (ob, .inl (cZ, 5200, .inl bm.1)), (ok, .inl (cK, 600, .inl km.1))] s.heap.size = A at hD ⊢
  have hA : ∀ q : Nat, s.heap.size ≤ q → A q := fun q h => by rw [← hAe]; exact Or.inr h
  have hS : va_S A s.heap s.heap [] := va_S.rf
  have hP : va_P (dC, dI) vwCl [(om, .inr (3, [.int th, .int st, .int lo, .ref ob, .int bm.2.1, .int bm.2.2.1, .int bm.2.2.2.1, .int bm.2.2.2.2, .ref ok, .int km.2, .int qm.1, .int qm.2.1, .int qm.2.2.1, .int qm.2.2.2, .int bd, .int ym.1, .int ym.2.1, .int ym.2.2.1, .int ym.2.2.2])), (ob, .inl (cZ, 5200, .inl bm.1)), (ok, .inl (cK, 600, .inl km.1))] s.heap := hP
  have hl := lv_entry ([.ref om]) (n := 3) (Nat.le_of_ble_eq_true rfl)
  rw [lg_entry_eq]
  generalize (lg_sl ([.ref om]) ++ List.replicate (3 - (lg_sl ([.ref om])).length) Slot.unset).toArray = ls at hl ⊢
  have hl : lv_has ls 3 [(0, .ref om)] := hl
  refine lv_iconst (v := 0) hx hb dX3_alignAll_0 (by decide) ?_
  refine lv_istore_n (lv' := [(1, .int 0), (0, .ref om)]) hx hb dX3_alignAll_1 rfl hl (by decide) rfl (fun ls hl => ?_)
  exact kX3_alignAll_2 hx hb hr hml hown hts hlocks hA hZ hK 17 th bm km qm bd ym 0 hf (plX3_alignAll_0 st lo th bm km qm bd ym) _ _ (hP.sub (ws' := [(om, .inr (3, [.int th, .int st, .int lo, .ref ob, .int bm.2.1, .int bm.2.2.1, .int bm.2.2.2.1, .int bm.2.2.2.2, .ref ok, .int km.2, .int qm.1, .int qm.2.1, .int qm.2.2.1, .int qm.2.2.2, .int bd, .int ym.1, .int ym.2.1, .int ym.2.2.1, .int ym.2.2.2])), (ob, .inl (cZ, 5200, .inl bm.1)), (ok, .inl (cK, 600, .inl km.1))]) [0, 1, 2] rfl) (hD.sub (ws' := [(om, .inr (3, [.int th, .int st, .int lo, .ref ob, .int bm.2.1, .int bm.2.2.1, .int bm.2.2.2.1, .int bm.2.2.2.2, .ref ok, .int km.2, .int qm.1, .int qm.2.1, .int qm.2.2.1, .int qm.2.2.2, .int bd, .int ym.1, .int ym.2.1, .int ym.2.2.1, .int ym.2.2.2])), (ob, .inl (cZ, 5200, .inl bm.1)), (ok, .inl (cK, 600, .inl km.1))]) [0, 1, 2] (by decide) rfl) hS ls (lv_sub hl [1, 0] rfl)
def FX3_align (st : Int32) (lo : Int32) (th : Int32) (bm : Bm) (km : Rw) (qm : Tk) (bd : Int32) (ym : Tk) : Int32 × Int32 × Bm :=
  let r_1 := FX3_isFull st lo th bm km qm bd ym 16
  if r_1 = 0 then
    let zhw_4 := FX3_alignAll st lo 0 bm km qm bd ym
    let r_3 := zhw_4.1
    let u_5 := zhw_4.2
    (r_3, 0, u_5)
  else
    (0, 1, bm)
set_option maxRecDepth 100000 in
theorem plX3_align_0 (st : Int32) (lo : Int32) (th : Int32) (bm : Bm) (km : Rw) (qm : Tk) (bd : Int32) (ym : Tk) (r_1 : Int32) (hw_2 : r_1 = FX3_isFull st lo th bm km qm bd ym 16) (c_7 : r_1 = 0) (r_3 : Int32) (u_5 : Bm) (hw_4 : (r_3, u_5) = FX3_alignAll st lo 0 bm km qm bd ym) : (r_3, 0, u_5) = FX3_align st lo th bm km qm bd ym := by
  subst hw_2
  have q0 := congrArg (fun z => z.1) hw_4
  have q1 := congrArg (fun z => z.2) hw_4
  dsimp only at q0 q1
  subst q0
  subst q1
  clear hw_4
  exact (if_pos c_7).symm
set_option maxRecDepth 100000 in
theorem plX3_align_1 (st : Int32) (lo : Int32) (th : Int32) (bm : Bm) (km : Rw) (qm : Tk) (bd : Int32) (ym : Tk) (r_1 : Int32) (hw_2 : r_1 = FX3_isFull st lo th bm km qm bd ym 16) (c_7 : ¬ (r_1 = 0)) : (0, 1, bm) = FX3_align st lo th bm km qm bd ym := by
  subst hw_2
  exact (if_neg c_7).symm
set_option maxHeartbeats 4000000 in
set_option maxRecDepth 100000 in
theorem mX3_align (l : Launch) (dC : Nat → ClassId) (dI : Nat → Nat → Nat) (cZ cK : ClassId) (om ob ok : Nat) (sz : Nat) (st : Int32) (lo : Int32) (th : Int32) (bm : Bm) (km : Rw) (qm : Tk) (bd : Int32) (ym : Tk) (hE : ∀ th : Int32, alE st lo 17 th bm km qm bd ym) : Met l yX3_align (Cond.code yX3_align cX3_align 1 (some .int) :: G) ({ frames := 5, cells := 0, slots := 0, locals := 110 } : Room) (va_Pc [.ref om] (fun U => U.heap.size = sz ∧ va_P (dC, dI) vwCl [(om, .inr (3, [.int th, .int st, .int lo, .ref ob, .int bm.2.1, .int bm.2.2.1, .int bm.2.2.2.1, .int bm.2.2.2.2, .ref ok, .int km.2, .int qm.1, .int qm.2.1, .int qm.2.2.1, .int qm.2.2.2, .int bd, .int ym.1, .int ym.2.1, .int ym.2.2.1, .int ym.2.2.2])), (ob, .inl (cZ, 5200, .inl bm.1)), (ok, .inl (cK, 600, .inl km.1))] U.heap ∧ va_K (dC, dI) vwCl [(cZ, .boolean), (cK, .int)] U ∧ va_D (fun _ => True) [(om, .inr (3, [.int th, .int st, .int lo, .ref ob, .int bm.2.1, .int bm.2.2.1, .int bm.2.2.2.1, .int bm.2.2.2.2, .ref ok, .int km.2, .int qm.1, .int qm.2.1, .int qm.2.2.1, .int qm.2.2.2, .int bd, .int ym.1, .int ym.2.1, .int ym.2.2.1, .int ym.2.2.2])), (ob, .inl (cZ, 5200, .inl bm.1)), (ok, .inl (cK, 600, .inl km.1))] ∧ zOk U)) (va_Qi (fun (r : Int32) (u : Int32 × Bm) => (r, u) = (FX3_align st lo th bm km qm bd ym)) (fun (u : Int32 × Bm) (t : State) => va_P (dC, dI) vwCl [(om, .inr (3, [.int u.1, .int st, .int lo, .ref ob, .int u.2.2.1, .int u.2.2.2.1, .int u.2.2.2.2.1, .int u.2.2.2.2.2, .ref ok, .int km.2, .int qm.1, .int qm.2.1, .int qm.2.2.1, .int qm.2.2.2, .int bd, .int ym.1, .int ym.2.1, .int ym.2.2.1, .int ym.2.2.2])), (ob, .inl (cZ, 5200, .inl u.2.1)), (ok, .inl (cK, 600, .inl km.1))] t.heap ∧ va_D (va_A [(om, .inr (3, [.int th, .int st, .int lo, .ref ob, .int bm.2.1, .int bm.2.2.1, .int bm.2.2.2.1, .int bm.2.2.2.2, .ref ok, .int km.2, .int qm.1, .int qm.2.1, .int qm.2.2.1, .int qm.2.2.2, .int bd, .int ym.1, .int ym.2.1, .int ym.2.2.1, .int ym.2.2.2])), (ob, .inl (cZ, 5200, .inl bm.1)), (ok, .inl (cK, 600, .inl km.1))] sz) [(om, .inr (3, [.int u.1, .int st, .int lo, .ref ob, .int u.2.2.1, .int u.2.2.2.1, .int u.2.2.2.2.1, .int u.2.2.2.2.2, .ref ok, .int km.2, .int qm.1, .int qm.2.1, .int qm.2.2.1, .int qm.2.2.2, .int bd, .int ym.1, .int ym.2.1, .int ym.2.2.1, .int ym.2.2.2])), (ob, .inl (cZ, 5200, .inl u.2.1)), (ok, .inl (cK, 600, .inl km.1))]) (va_A [(om, .inr (3, [.int th, .int st, .int lo, .ref ob, .int bm.2.1, .int bm.2.2.1, .int bm.2.2.2.1, .int bm.2.2.2.2, .ref ok, .int km.2, .int qm.1, .int qm.2.1, .int qm.2.2.1, .int qm.2.2.2, .int bd, .int ym.1, .int ym.2.1, .int ym.2.2.1, .int ym.2.2.2])), (ob, .inl (cZ, 5200, .inl bm.1)), (ok, .inl (cK, 600, .inl km.1))] sz)) 0 0 (va_A [(om, .inr (3, [.int th, .int st, .int lo, .ref ob, .int bm.2.1, .int bm.2.2.1, .int bm.2.2.2.1, .int bm.2.2.2.2, .ref ok, .int km.2, .int qm.1, .int qm.2.1, .int qm.2.2.1, .int qm.2.2.2, .int bd, .int ym.1, .int ym.2.1, .int ym.2.2.1, .int ym.2.2.2])), (ob, .inl (cZ, 5200, .inl bm.1)), (ok, .inl (cK, 600, .inl km.1))] sz) := by
  refine Met.ofW (cc := cX3_align) (maxL := 1) (ret := (some .int)) (by decide) rfl ?_
  intro p e s m args below meth c s₁ B hml hv
  obtain ⟨rfl, hsz, hP, hK, hD0, hZ⟩ := hv
  have hx := B.exec
  have hb := B.bytes
  have hr := B.returns
  have hts : ∀ w ∈ G, w.before [.ref om].toArray s = true := fun w h => atoms_spec (ws := (Cond.code yX3_align cX3_align 1 (some .int) :: G)) B.pre w (List.mem_cons_of_mem _ h)
  have hown : s.vm.findClass RX3 = some m.cls := findClass_of_methodNamed B.named
  have hlocks := B.notSynchronized
  subst hsz
  have hD := hD0.self (sz := s.heap.size)
  generalize hAe : va_A [(om, .inr (3, [.int th, .int st, .int lo, .ref ob, .int bm.2.1, .int bm.2.2.1, .int bm.2.2.2.1, .int bm.2.2.2.2, .ref ok, .int km.2, .int qm.1, .int qm.2.1, .int qm.2.2.1, .int qm.2.2.2, .int bd, .int ym.1, .int ym.2.1, .int ym.2.2.1, .int ym.2.2.2])), (ob, .inl (cZ, 5200, .inl bm.1)), (ok, .inl (cK, 600, .inl km.1))] s.heap.size = A at hD ⊢
  have hA : ∀ q : Nat, s.heap.size ≤ q → A q := fun q h => by rw [← hAe]; exact Or.inr h
  have hS : va_S A s.heap s.heap [] := va_S.rf
  have hP : va_P (dC, dI) vwCl [(om, .inr (3, [.int th, .int st, .int lo, .ref ob, .int bm.2.1, .int bm.2.2.1, .int bm.2.2.2.1, .int bm.2.2.2.2, .ref ok, .int km.2, .int qm.1, .int qm.2.1, .int qm.2.2.1, .int qm.2.2.2, .int bd, .int ym.1, .int ym.2.1, .int ym.2.2.1, .int ym.2.2.2])), (ob, .inl (cZ, 5200, .inl bm.1)), (ok, .inl (cK, 600, .inl km.1))] s.heap := hP
  have hl := lv_entry ([.ref om]) (n := 1) (Nat.le_of_ble_eq_true rfl)
  rw [lg_entry_eq]
  generalize (lg_sl ([.ref om]) ++ List.replicate (1 - (lg_sl ([.ref om])).length) Slot.unset).toArray = ls at hl ⊢
  have hl : lv_has ls 1 [(0, .ref om)] := hl
  refine lv_aload_n hx hb dX3_align_0 rfl (lv_at hl 0 rfl) ?_
  refine lv_aload_n hx hb dX3_align_1 rfl (lv_at hl 0 rfl) ?_
  refine lv_bipush (v := 16) hx hb dX3_align_2 (by decide) ?_
  have hPc := hP.sub (ws' := [(om, .inr (3, [.int th, .int st, .int lo, .ref ob, .int bm.2.1, .int bm.2.2.1, .int bm.2.2.2.1, .int bm.2.2.2.2, .ref ok, .int km.2, .int qm.1, .int qm.2.1, .int qm.2.2.1, .int qm.2.2.2, .int bd, .int ym.1, .int ym.2.1, .int ym.2.2.1, .int ym.2.2.2])), (ob, .inl (cZ, 5200, .inl bm.1)), (ok, .inl (cK, 600, .inl km.1))]) [0, 1, 2] rfl
  have hKc := hK.sub (tys' := [(cZ, .boolean), (cK, .int)]) [0, 1] rfl
  refine vp_callSi (va_Run.run (va_runV (As := [.int 16]) (rest := [.ref om]) ⟨hx, hb, hml, hown, hts⟩ (mX3_isFull l dC dI cZ cK om ob ok st lo th bm km qm bd ym 16) (cwV 1 hts (gV wd508 wd509 wd11 wd30 wd510) rfl rfl rfl (by decide +kernel) ⟨Nat.le_of_ble_eq_true rfl, Nat.le_of_ble_eq_true rfl⟩) ⟨fb_ro, va_recv hKc hPc (ci := 3) (q0 := 0) rfl rfl, pre_ro hPc hKc hZ⟩ rfl rfl hl.1 rfl (lv_room (Nat.le_of_ble_eq_true rfl)) dX3_align_4 ⟨Nat.le_of_ble_eq_true rfl, Nat.le_of_ble_eq_true rfl⟩)) (fun r_1 hw_2 => ?_)
  refine lv_if_eq (tgt := 14) hx hb dX3_align_7 (by decide) (fun c_7 => ?_) (fun c_7 => ?_)
  · refine lv_iconst (v := 0) hx hb dX3_align_14 (by decide) ?_
    refine va_put (D := (dC, dI)) (ci := 3) (v := .int 0) (ty := .int) (C := RX3) (T := TX3) (N := 19) hx hb hts inGX3 tyX3 tyX3_ok nmX3 hown hK hP hD hS 0 rfl rfl 0 (by decide) (hts _ wd437) (fun _ h9 => h9) rfl (by decide +kernel) rfl rfl (Nat.le_of_ble_eq_true rfl) dX3_align_15 (fun H locs hP hD hS => ?_)
    have hP : va_P (dC, dI) vwCl [(om, .inr (3, [.int 0, .int st, .int lo, .ref ob, .int bm.2.1, .int bm.2.2.1, .int bm.2.2.2.1, .int bm.2.2.2.2, .ref ok, .int km.2, .int qm.1, .int qm.2.1, .int qm.2.2.1, .int qm.2.2.2, .int bd, .int ym.1, .int ym.2.1, .int ym.2.2.1, .int ym.2.2.2])), (ob, .inl (cZ, 5200, .inl bm.1)), (ok, .inl (cK, 600, .inl km.1))] H := hP
    have hD : va_D A [(om, .inr (3, [.int 0, .int st, .int lo, .ref ob, .int bm.2.1, .int bm.2.2.1, .int bm.2.2.2.1, .int bm.2.2.2.2, .ref ok, .int km.2, .int qm.1, .int qm.2.1, .int qm.2.2.1, .int qm.2.2.2, .int bd, .int ym.1, .int ym.2.1, .int ym.2.2.1, .int ym.2.2.2])), (ob, .inl (cZ, 5200, .inl bm.1)), (ok, .inl (cK, 600, .inl km.1))] := hD
    refine lv_aload_n hx hb dX3_align_18 rfl (lv_at hl 0 rfl) ?_
    refine va_get (D := (dC, dI)) (ci := 3) (v := .int 0) (C := RX3) (T := TX3) (N := 19) hx hb hts inGX3 hown hK hP 0 rfl rfl 0 (by decide) (hts _ wd437) (fun _ h9 => h9) rfl dX3_align_19 ?_
    refine lv_if_le (tgt := 29) hx hb dX3_align_22 (by decide) (fun c_22 => ?_) (fun c_22 => absurd c_22 (by decide))
    refine lv_aload_n hx hb dX3_align_29 rfl (lv_at hl 0 rfl) ?_
    have hPc := hP.sub (ws' := [(om, .inr (3, [.int 0, .int st, .int lo, .ref ob, .int bm.2.1, .int bm.2.2.1, .int bm.2.2.2.1, .int bm.2.2.2.2, .ref ok, .int km.2, .int qm.1, .int qm.2.1, .int qm.2.2.1, .int qm.2.2.2, .int bd, .int ym.1, .int ym.2.1, .int ym.2.2.1, .int ym.2.2.2])), (ob, .inl (cZ, 5200, .inl bm.1)), (ok, .inl (cK, 600, .inl km.1))]) [0, 1, 2] rfl
    have hKc := hK.sub (tys' := [(cZ, .boolean), (cK, .int)]) [0, 1] rfl
    have hDc := hD.sub (ws' := [(om, .inr (3, [.int 0, .int st, .int lo, .ref ob, .int bm.2.1, .int bm.2.2.1, .int bm.2.2.2.1, .int bm.2.2.2.2, .ref ok, .int km.2, .int qm.1, .int qm.2.1, .int qm.2.2.1, .int qm.2.2.2, .int bd, .int ym.1, .int ym.2.1, .int ym.2.2.1, .int ym.2.2.2])), (ob, .inl (cZ, 5200, .inl bm.1)), (ok, .inl (cK, 600, .inl km.1))]) [0, 1, 2] (by decide) rfl
    have hFc := va_free (wc := [(om, .inr (3, [.int 0, .int st, .int lo, .ref ob, .int bm.2.1, .int bm.2.2.1, .int bm.2.2.2.1, .int bm.2.2.2.2, .ref ok, .int km.2, .int qm.1, .int qm.2.1, .int qm.2.2.1, .int qm.2.2.2, .int bd, .int ym.1, .int ym.2.1, .int ym.2.2.1, .int ym.2.2.2])), (ob, .inl (cZ, 5200, .inl bm.1)), (ok, .inl (cK, 600, .inl km.1))]) hD hS hA [0, 1, 2] rfl
    refine va_calli (va_runV (As := []) (rest := []) ⟨hx, hb, hml, hown, hts⟩ (mX3_alignAll l dC dI cZ cK om ob ok H.size st lo 0 bm km qm bd ym (hE _)) (cwV 0 hts (gV wd527 wd528 wd16 wd30 wd529) rfl rfl rfl (by decide +kernel) ⟨Nat.le_of_ble_eq_true rfl, Nat.le_of_ble_eq_true rfl⟩) ⟨fb_rw, va_recv hKc hPc (ci := 3) (q0 := 0) rfl rfl, pre_rw hPc hKc hDc hZ⟩ rfl rfl hl.1 rfl (lv_room (Nat.le_of_ble_eq_true rfl)) dX3_align_30 ⟨Nat.le_of_ble_eq_true rfl, Nat.le_of_ble_eq_true rfl⟩) hS (fun q _ h => hFc q h) hFc (fun r_3 u_5 t H1 locs ht hvm hw_4 hB hz1 hk1 hS => ?_)
    obtain ⟨hP1, hD1⟩ := hB
    rw [ht] at hP1
    obtain ⟨hP, hD⟩ := va_join (wr := []) (w1 := [(om, .inr (3, [.int 0, .int st, .int lo, .ref ob, .int u_5.2.1, .int u_5.2.2.1, .int u_5.2.2.2.1, .int u_5.2.2.2.2, .ref ok, .int km.2, .int qm.1, .int qm.2.1, .int qm.2.2.1, .int qm.2.2.2, .int bd, .int ym.1, .int ym.2.1, .int ym.2.2.1, .int ym.2.2.2])), (ob, .inl (cZ, 5200, .inl u_5.1)), (ok, .inl (cK, 600, .inl km.1))]) hP hD [0, 1, 2] [] rfl rfl (by decide) (by decide) hk1 hFc hP1 hD1
    generalize H1 = H at hP hS ⊢
    have hP : va_P (dC, dI) vwCl [(om, .inr (3, [.int 0, .int st, .int lo, .ref ob, .int u_5.2.1, .int u_5.2.2.1, .int u_5.2.2.2.1, .int u_5.2.2.2.2, .ref ok, .int km.2, .int qm.1, .int qm.2.1, .int qm.2.2.1, .int qm.2.2.2, .int bd, .int ym.1, .int ym.2.1, .int ym.2.2.1, .int ym.2.2.2])), (ob, .inl (cZ, 5200, .inl u_5.1)), (ok, .inl (cK, 600, .inl km.1))] H := hP
    have hD : va_D A [(om, .inr (3, [.int 0, .int st, .int lo, .ref ob, .int u_5.2.1, .int u_5.2.2.1, .int u_5.2.2.2.1, .int u_5.2.2.2.2, .ref ok, .int km.2, .int qm.1, .int qm.2.1, .int qm.2.2.1, .int qm.2.2.2, .int bd, .int ym.1, .int ym.2.1, .int ym.2.2.1, .int ym.2.2.2])), (ob, .inl (cZ, 5200, .inl u_5.1)), (ok, .inl (cK, 600, .inl km.1))] := hD
    have hP9 := hP.sub (ws' := [(om, .inr (3, [.int 0, .int st, .int lo, .ref ob, .int u_5.2.1, .int u_5.2.2.1, .int u_5.2.2.2.1, .int u_5.2.2.2.2, .ref ok, .int km.2, .int qm.1, .int qm.2.1, .int qm.2.2.1, .int qm.2.2.2, .int bd, .int ym.1, .int ym.2.1, .int ym.2.2.1, .int ym.2.2.2])), (ob, .inl (cZ, 5200, .inl u_5.1)), (ok, .inl (cK, 600, .inl km.1))]) [0, 1, 2] rfl
    have hD9 := hD.sub (ws' := [(om, .inr (3, [.int 0, .int st, .int lo, .ref ob, .int u_5.2.1, .int u_5.2.2.1, .int u_5.2.2.2.1, .int u_5.2.2.2.2, .ref ok, .int km.2, .int qm.1, .int qm.2.1, .int qm.2.2.1, .int qm.2.2.2, .int bd, .int ym.1, .int ym.2.1, .int ym.2.2.1, .int ym.2.2.2])), (ob, .inl (cZ, 5200, .inl u_5.1)), (ok, .inl (cK, 600, .inl km.1))]) [0, 1, 2] (by decide) rfl
    exact W.iret (v := r_3) hx hb hr (fun t ht hW => ⟨⟨r_3, (0, u_5), rfl, (plX3_align_0 st lo th bm km qm bd ym _ hw_2 c_7 _ _ hw_4), by rw [ht]; exact hP9, hD9⟩, hS.F ht⟩) hS.2.2 dX3_align_33
  · refine lv_iconst (v := 1) hx hb dX3_align_10 (by decide) ?_
    refine lv_goto (tgt := 15) hx hb dX3_align_11 (by decide) ?_
    refine va_put (D := (dC, dI)) (ci := 3) (v := .int 1) (ty := .int) (C := RX3) (T := TX3) (N := 19) hx hb hts inGX3 tyX3 tyX3_ok nmX3 hown hK hP hD hS 0 rfl rfl 0 (by decide) (hts _ wd437) (fun _ h9 => h9) rfl (by decide +kernel) rfl rfl (Nat.le_of_ble_eq_true rfl) dX3_align_15 (fun H locs hP hD hS => ?_)
    have hP : va_P (dC, dI) vwCl [(om, .inr (3, [.int 1, .int st, .int lo, .ref ob, .int bm.2.1, .int bm.2.2.1, .int bm.2.2.2.1, .int bm.2.2.2.2, .ref ok, .int km.2, .int qm.1, .int qm.2.1, .int qm.2.2.1, .int qm.2.2.2, .int bd, .int ym.1, .int ym.2.1, .int ym.2.2.1, .int ym.2.2.2])), (ob, .inl (cZ, 5200, .inl bm.1)), (ok, .inl (cK, 600, .inl km.1))] H := hP
    have hD : va_D A [(om, .inr (3, [.int 1, .int st, .int lo, .ref ob, .int bm.2.1, .int bm.2.2.1, .int bm.2.2.2.1, .int bm.2.2.2.2, .ref ok, .int km.2, .int qm.1, .int qm.2.1, .int qm.2.2.1, .int qm.2.2.2, .int bd, .int ym.1, .int ym.2.1, .int ym.2.2.1, .int ym.2.2.2])), (ob, .inl (cZ, 5200, .inl bm.1)), (ok, .inl (cK, 600, .inl km.1))] := hD
    refine lv_aload_n hx hb dX3_align_18 rfl (lv_at hl 0 rfl) ?_
    refine va_get (D := (dC, dI)) (ci := 3) (v := .int 1) (C := RX3) (T := TX3) (N := 19) hx hb hts inGX3 hown hK hP 0 rfl rfl 0 (by decide) (hts _ wd437) (fun _ h9 => h9) rfl dX3_align_19 ?_
    refine lv_if_le (tgt := 29) hx hb dX3_align_22 (by decide) (fun c_22 => absurd c_22 (by decide)) (fun c_22 => ?_)
    refine lv_iconst (v := 0) hx hb dX3_align_25 (by decide) ?_
    refine lv_goto (tgt := 33) hx hb dX3_align_26 (by decide) ?_
    have hP9 := hP.sub (ws' := [(om, .inr (3, [.int 1, .int st, .int lo, .ref ob, .int bm.2.1, .int bm.2.2.1, .int bm.2.2.2.1, .int bm.2.2.2.2, .ref ok, .int km.2, .int qm.1, .int qm.2.1, .int qm.2.2.1, .int qm.2.2.2, .int bd, .int ym.1, .int ym.2.1, .int ym.2.2.1, .int ym.2.2.2])), (ob, .inl (cZ, 5200, .inl bm.1)), (ok, .inl (cK, 600, .inl km.1))]) [0, 1, 2] rfl
    have hD9 := hD.sub (ws' := [(om, .inr (3, [.int 1, .int st, .int lo, .ref ob, .int bm.2.1, .int bm.2.2.1, .int bm.2.2.2.1, .int bm.2.2.2.2, .ref ok, .int km.2, .int qm.1, .int qm.2.1, .int qm.2.2.1, .int qm.2.2.2, .int bd, .int ym.1, .int ym.2.1, .int ym.2.2.1, .int ym.2.2.2])), (ob, .inl (cZ, 5200, .inl bm.1)), (ok, .inl (cK, 600, .inl km.1))]) [0, 1, 2] (by decide) rfl
    exact W.iret (v := 0) hx hb hr (fun t ht hW => ⟨⟨0, (1, bm), rfl, (plX3_align_1 st lo th bm km qm bd ym _ hw_2 c_7), by rw [ht]; exact hP9, hD9⟩, hS.F ht⟩) hS.2.2 dX3_align_33
