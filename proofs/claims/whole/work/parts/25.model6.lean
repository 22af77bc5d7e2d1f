theorem try_191 {st lo th : Int32} {bm : Bm} {km : Rw} {qm : Tk} {bd : Int32} {ym : Tk} {x : Int32} (hY : yOk km ym) : yOk km (LX3_tryBit_191 st lo th bm km qm bd ym x).2 := by
  unfold LX3_tryBit_191; dsimp only
  by_cases c : (ym.1 / 8) < km.2
  · rw [if_pos c]
    have k := go_y (st := st) (lo := lo) (th := th) (bm := bm) (qm := qm) (bd := bd) (ym := (ym.1, ym.2.1 + 1, 0, ym.2.2.2)) hY (lt_t hY.1 c)
    generalize FX3_goOn st lo th bm km qm bd (ym.1, ym.2.1 + 1, 0, ym.2.2.2) = z at k ⊢
    generalize FX3_bitAt st lo th bm km qm bd ym ym.1 = b
    by_cases d : b = 1
    · rw [if_pos d]; exact hY
    · rw [if_neg d]; exact k
  · rw [if_neg c]; exact hY
theorem try_155 {st lo th : Int32} {bm : Bm} {km : Rw} {qm : Tk} {bd : Int32} {ym : Tk} {x y : Int32} (hY : yOk km ym) : yOk km (LX3_tryBit_155 st lo th bm km qm bd ym x y).2 := by
  have k := try_191 (st := st) (lo := lo) (th := th) (bm := bm) (qm := qm) (bd := bd) (x := x) hY
  unfold LX3_tryBit_155
  generalize LX3_tryBit_191 st lo th bm km qm bd ym x = z at k ⊢
  repeat' split
  all_goals first | exact k | exact hY
theorem try_132 {st lo th : Int32} {bm : Bm} {km : Rw} {qm : Tk} {bd : Int32} {ym : Tk} {x y : Int32} (hY : yOk km ym) (hT : tOk ym.1) : yOk km (LX3_tryBit_132 st lo th bm km qm bd ym x y).2 := by
  have k := go_y (st := st) (lo := lo) (th := th) (bm := bm) (qm := qm) (bd := bd) hY hT
  unfold LX3_tryBit_132; dsimp only
  generalize FX3_goOn st lo th bm km qm bd ym = u at k ⊢
  by_cases c : x = 1
  · rw [if_pos c]; exact try_155 (ym := (u.1, u.2.1, u.2.2.1 + 1, u.2.2.2)) k
  · rw [if_neg c]; exact try_155 (ym := (u.1, u.2.1, 0, u.2.2.2)) k
theorem try_82 {st lo th : Int32} {bm : Bm} {km : Rw} {qm : Tk} {bd : Int32} {ym : Tk} (hY : yOk km ym) (hT : tOk ym.1) : yOk km (LX3_tryBit_82 st lo th bm km qm bd ym).2 := by
  unfold LX3_tryBit_82; dsimp only
  generalize FX3_bitAt st lo th bm km qm bd ym ym.1 = b
  have k0 := try_132 (st := st) (lo := lo) (th := th) (bm := bm) (qm := qm) (bd := bd) (x := b) (y := 0) hY hT
  have k1 := try_132 (st := st) (lo := lo) (th := th) (bm := bm) (qm := qm) (bd := bd) (x := b) (y := 1) hY hT
  generalize LX3_tryBit_132 st lo th bm km qm bd ym b 0 = z0 at k0 ⊢
  generalize LX3_tryBit_132 st lo th bm km qm bd ym b 1 = z1 at k1 ⊢
  repeat' split
  all_goals assumption
theorem try_y {st lo th : Int32} {bm : Bm} {km : Rw} {qm : Tk} {bd : Int32} {ym : Tk} (hY : yOk km ym) : yOk km (FX3_tryBit st lo th bm km qm bd ym).2 := by
  unfold FX3_tryBit; dsimp only
  by_cases c : 0 ≤ FX3_obstacle st lo th bm km qm bd ym
  · rw [if_pos c]
    have hT := ob_t hY rfl c
    have k1 := try_82 (st := st) (lo := lo) (th := th) (bm := bm) (qm := qm) (bd := bd) hY hT
    by_cases d : (ym.1 - ym.1 / 8 * 8) = 0
    · rw [if_pos d]
      obtain ⟨y1, y2⟩ := st_y (u := FX3_goOn st lo th bm km qm bd (ym.1, ym.2.1 + 1, ym.2.2.1, ym.2.2.2)) (y := (ym.1, ym.2.1 + 1, ym.2.2.1, ym.2.2.2)) hY rfl c d rfl rfl rfl
      generalize FX3_goOn st lo th bm km qm bd (ym.1, ym.2.1 + 1, ym.2.2.1, ym.2.2.2) = u at y1 y2 ⊢
      have k2 := try_82 (st := st) (lo := lo) (th := th) (bm := bm) (qm := qm) (bd := bd) y1 y2
      generalize LX3_tryBit_82 st lo th bm km qm bd ym = z1 at k1 ⊢
      generalize LX3_tryBit_82 st lo th bm km qm bd u = z2 at k2 ⊢
      generalize FX3_bitAt st lo th bm km qm bd ym ym.1 = b
      repeat' split
      all_goals first | exact k1 | exact k2 | exact hY
    · rw [if_neg d]
      generalize LX3_tryBit_82 st lo th bm km qm bd ym = z1 at k1 ⊢
      repeat' split
      all_goals exact k1
  · rw [if_neg c]; exact hY
theorem try_yE {st lo th : Int32} {bm : Bm} {km : Rw} {qm : Tk} {bd : Int32} {ym : Tk} {r : Int32} {u : Tk} (hY : yOk km ym) (e : (r, u) = FX3_tryBit st lo th bm km qm bd ym) : yOk km u := by
  have q := try_y (st := st) (lo := lo) (th := th) (bm := bm) (qm := qm) (bd := bd) hY
  rw [← e] at q; exact q
theorem bt_y {st lo th : Int32} {bm : Bm} {km : Rw} {qm : Tk} {bd : Int32} {ym : Tk} {u : Tk} (hq : yOk km qm) (e : u = FX3_beginTry st lo th bm km qm bd ym) : yOk km u := by rw [e]; exact hq
def LX3_get_50 (st : Int32) (lo : Int32) : Nat → Int32 → Bm → Rw → Tk → Int32 → Tk → Int32 → Int64 → Int32 → Int64 × Int32 × Tk × Int32 × Tk
  | 0, th, bm, km, qm, bd, ym, p0, v, k => (0, th, qm, bd, ym)
  | n + 1, th, bm, km, qm, bd, ym, p0, v, k =>
    if p0 ≤ k then
      let u_2 := FX3_keepTry st lo th bm km qm bd ym
      (v, th, u_2, bd, ym)
    else
      let zhw_4 := FX3_tryBit st lo th bm km qm bd ym
      let r_3 := zhw_4.1
      let u_5 := zhw_4.2
      if 0 ≤ r_3 then
        if lo = 0 then
          let x_6 := (2 * v) + r_3.toInt64
          let i_7 := k + 1
          LX3_get_50 st lo n th bm km qm bd u_5 p0 x_6 i_7
        else
          let x_8 := v ||| (r_3.toInt64 <<< (k.toInt64 &&& 63))
          let i_9 := k + 1
          LX3_get_50 st lo n th bm km qm bd u_5 p0 x_8 i_9
      else
        if r_3 = (-3) then
          (r_3.toInt64, th, qm, 1, u_5)
        else
          (r_3.toInt64, th, qm, 0, u_5)
def LX3_get_18 (st : Int32) (lo : Int32) (th : Int32) (bm : Bm) (km : Rw) (qm : Tk) (bd : Int32) (ym : Tk) (p0 : Int32) (v : Int32) : Int64 × Int32 × Tk × Int32 × Tk :=
  if v ≤ 0 then
    if bd = 0 then
      let u_2 := FX3_beginTry st lo v bm km qm bd ym
      LX3_get_50 st lo (fz 0 p0) v bm km qm bd u_2 p0 0 0
    else
      ((-3), v, qm, bd, ym)
  else
    (0, v, qm, bd, ym)
def FX3_get (st : Int32) (lo : Int32) (th : Int32) (bm : Bm) (km : Rw) (qm : Tk) (bd : Int32) (ym : Tk) (p0 : Int32) : Int64 × Int32 × Tk × Int32 × Tk :=
  let r_1 := FX3_isIn p0.toInt64 1 32
  if r_1 = 0 then
    LX3_get_18 st lo th bm km qm bd ym p0 1
  else
    LX3_get_18 st lo th bm km qm bd ym p0 0
set_option maxRecDepth 100000 in
theorem plX3_get_l50_0 (st : Int32) (lo : Int32) (n : Nat) (th : Int32) (bm : Bm) (km : Rw) (qm : Tk) (bd : Int32) (ym : Tk) (p0 : Int32) (v : Int64) (k : Int32) (c_53 : p0 ≤ k) (u_2 : Tk) (hw_1 : u_2 = FX3_keepTry st lo th bm km qm bd ym) : (v, th, u_2, bd, ym) = LX3_get_50 st lo (n + 1) th bm km qm bd ym p0 v k := by
  subst hw_1
  exact (if_pos c_53).symm
set_option maxRecDepth 100000 in
theorem plX3_get_l50_1 (st : Int32) (lo : Int32) (n : Nat) (th : Int32) (bm : Bm) (km : Rw) (qm : Tk) (bd : Int32) (ym : Tk) (p0 : Int32) (v : Int64) (k : Int32) (c_53 : ¬ (p0 ≤ k)) (r_3 : Int32) (u_5 : Tk) (hw_4 : (r_3, u_5) = FX3_tryBit st lo th bm km qm bd ym) (c_64 : 0 ≤ r_3) (c_91 : lo = 0) (x_6 : Int64) (ex_6 : x_6 = (2 * v) + r_3.toInt64) (i_7 : Int32) (ei_7 : i_7 = k + 1) : LX3_get_50 st lo n th bm km qm bd u_5 p0 x_6 i_7 = LX3_get_50 st lo (n + 1) th bm km qm bd ym p0 v k := by
  have q0 := congrArg (fun z => z.1) hw_4
  have q1 := congrArg (fun z => z.2) hw_4
  dsimp only at q0 q1
  subst q0
  subst q1
  clear hw_4
  subst ex_6
  subst ei_7
  exact (((if_neg c_53).trans (if_pos c_64)).trans (if_pos c_91)).symm
set_option maxRecDepth 100000 in
theorem plX3_get_l50_2 (st : Int32) (lo : Int32) (n : Nat) (th : Int32) (bm : Bm) (km : Rw) (qm : Tk) (bd : Int32) (ym : Tk) (p0 : Int32) (v : Int64) (k : Int32) (c_53 : ¬ (p0 ≤ k)) (r_3 : Int32) (u_5 : Tk) (hw_4 : (r_3, u_5) = FX3_tryBit st lo th bm km qm bd ym) (c_64 : 0 ≤ r_3) (c_91 : ¬ (lo = 0)) (x_8 : Int64) (ex_8 : x_8 = v ||| (r_3.toInt64 <<< (k.toInt64 &&& 63))) (i_9 : Int32) (ei_9 : i_9 = k + 1) : LX3_get_50 st lo n th bm km qm bd u_5 p0 x_8 i_9 = LX3_get_50 st lo (n + 1) th bm km qm bd ym p0 v k := by
  have q0 := congrArg (fun z => z.1) hw_4
  have q1 := congrArg (fun z => z.2) hw_4
  dsimp only at q0 q1
  subst q0
  subst q1
  clear hw_4
  subst ex_8
  subst ei_9
  exact (((if_neg c_53).trans (if_pos c_64)).trans (if_neg c_91)).symm
set_option maxRecDepth 100000 in
theorem plX3_get_l50_3 (st : Int32) (lo : Int32) (n : Nat) (th : Int32) (bm : Bm) (km : Rw) (qm : Tk) (bd : Int32) (ym : Tk) (p0 : Int32) (v : Int64) (k : Int32) (c_53 : ¬ (p0 ≤ k)) (r_3 : Int32) (u_5 : Tk) (hw_4 : (r_3, u_5) = FX3_tryBit st lo th bm km qm bd ym) (c_64 : ¬ (0 ≤ r_3)) (c_72 : ¬ (r_3 = (-3))) : (r_3.toInt64, th, qm, 0, u_5) = LX3_get_50 st lo (n + 1) th bm km qm bd ym p0 v k := by
  have q0 := congrArg (fun z => z.1) hw_4
  have q1 := congrArg (fun z => z.2) hw_4
  dsimp only at q0 q1
  subst q0
  subst q1
  clear hw_4
  exact (((if_neg c_53).trans (if_neg c_64)).trans (if_neg c_72)).symm
set_option maxRecDepth 100000 in
theorem plX3_get_l50_4 (st : Int32) (lo : Int32) (n : Nat) (th : Int32) (bm : Bm) (km : Rw) (qm : Tk) (bd : Int32) (ym : Tk) (p0 : Int32) (v : Int64) (k : Int32) (c_53 : ¬ (p0 ≤ k)) (r_3 : Int32) (u_5 : Tk) (hw_4 : (r_3, u_5) = FX3_tryBit st lo th bm km qm bd ym) (c_64 : ¬ (0 ≤ r_3)) (c_72 : r_3 = (-3)) : (r_3.toInt64, th, qm, 1, u_5) = LX3_get_50 st lo (n + 1) th bm km qm bd ym p0 v k := by
  have q0 := congrArg (fun z => z.1) hw_4
  have q1 := congrArg (fun z => z.2) hw_4
  dsimp only at q0 q1
  subst q0
  subst q1
  clear hw_4
  exact (((if_neg c_53).trans (if_neg c_64)).trans (if_pos c_72)).symm
set_option maxRecDepth 100000 in
theorem plX3_get_l18_0 (st : Int32) (lo : Int32) (th : Int32) (bm : Bm) (km : Rw) (qm : Tk) (bd : Int32) (ym : Tk) (p0 : Int32) (v : Int32) (c_25 : v ≤ 0) (c_34 : bd = 0) (u_2 : Tk) (hw_1 : u_2 = FX3_beginTry st lo v bm km qm bd ym) : LX3_get_50 st lo (fz 0 p0) v bm km qm bd u_2 p0 0 0 = LX3_get_18 st lo th bm km qm bd ym p0 v := by
  subst hw_1
  exact ((if_pos c_25).trans (if_pos c_34)).symm
set_option maxRecDepth 100000 in
theorem plX3_get_l18_1 (st : Int32) (lo : Int32) (th : Int32) (bm : Bm) (km : Rw) (qm : Tk) (bd : Int32) (ym : Tk) (p0 : Int32) (v : Int32) (c_25 : v ≤ 0) (c_34 : ¬ (bd = 0)) : ((-3), v, qm, bd, ym) = LX3_get_18 st lo th bm km qm bd ym p0 v := by
  exact ((if_pos c_25).trans (if_neg c_34)).symm
set_option maxRecDepth 100000 in
theorem plX3_get_l18_2 (st : Int32) (lo : Int32) (th : Int32) (bm : Bm) (km : Rw) (qm : Tk) (bd : Int32) (ym : Tk) (p0 : Int32) (v : Int32) (c_25 : ¬ (v ≤ 0)) : (0, v, qm, bd, ym) = LX3_get_18 st lo th bm km qm bd ym p0 v := by
  exact (if_neg c_25).symm
set_option maxRecDepth 100000 in
theorem plX3_get_0 (st : Int32) (lo : Int32) (th : Int32) (bm : Bm) (km : Rw) (qm : Tk) (bd : Int32) (ym : Tk) (p0 : Int32) (r_1 : Int32) (hw_2 : r_1 = FX3_isIn p0.toInt64 1 32) (c_10 : ¬ (r_1 = 0)) : LX3_get_18 st lo th bm km qm bd ym p0 0 = FX3_get st lo th bm km qm bd ym p0 := by
  subst hw_2
  exact (if_neg c_10).symm
set_option maxRecDepth 100000 in
theorem plX3_get_1 (st : Int32) (lo : Int32) (th : Int32) (bm : Bm) (km : Rw) (qm : Tk) (bd : Int32) (ym : Tk) (p0 : Int32) (r_1 : Int32) (hw_2 : r_1 = FX3_isIn p0.toInt64 1 32) (c_10 : r_1 = 0) : LX3_get_18 st lo th bm km qm bd ym p0 1 = FX3_get st lo th bm km qm bd ym p0 := by
  subst hw_2
  exact (if_pos c_10).symm
set_option maxHeartbeats 4000000 in
set_option maxRecDepth 100000 in
theorem kX3_get_50 {p : Program} {l : Launch} {e : Env} {s : State} {m : MethodId} {args : Array Value} {below : List Frame} {meth : Method} {c : Code} {dC : Nat → ClassId} {dI : Nat → Nat → Nat} {cZ cK : ClassId} {om ob ok : Nat} {st : Int32} {lo : Int32} {z : Int64 × Int32 × Tk × Int32 × Tk} {A : Nat → Prop} (hx : p.tables.exec = Jvm.exec) (hb : c.code = cX3_get) (hr : meth.sig.returnType = (some .long)) (hml : c.maxLocals = 6) (hown : s.vm.findClass RX3 = some m.cls) (hts : ∀ w ∈ G, w.before args s = true) (hlocks : meth.locks = false) (hA : ∀ q : Nat, s.heap.size ≤ q → A q) (hZ : zOk s) (hK : va_K (dC, dI) vwCl [(cZ, .boolean), (cK, .int)] s) : ∀ (n : Nat) (th : Int32) (bm : Bm) (km : Rw) (qm : Tk) (bd : Int32) (ym : Tk) (p0 : Int32) (v : Int64) (k : Int32), (fuel n k p0) → (yOk km ym) → LX3_get_50 st lo n th bm km qm bd ym p0 v k = z → ∀ (H : Heap) (locs : List Loc), va_P (dC, dI) vwCl [(om, .inr (3, [.int th, .int st, .int lo, .ref ob, .int bm.2.1, .int bm.2.2.1, .int bm.2.2.2.1, .int bm.2.2.2.2, .ref ok, .int km.2, .int qm.1, .int qm.2.1, .int qm.2.2.1, .int qm.2.2.2, .int bd, .int ym.1, .int ym.2.1, .int ym.2.2.1, .int ym.2.2.2])), (ob, .inl (cZ, 5200, .inl bm.1)), (ok, .inl (cK, 600, .inl km.1))] H → va_D A [(om, .inr (3, [.int th, .int st, .int lo, .ref ob, .int bm.2.1, .int bm.2.2.1, .int bm.2.2.2.1, .int bm.2.2.2.2, .ref ok, .int km.2, .int qm.1, .int qm.2.1, .int qm.2.2.1, .int qm.2.2.2, .int bd, .int ym.1, .int ym.2.1, .int ym.2.2.1, .int ym.2.2.2])), (ob, .inl (cZ, 5200, .inl bm.1)), (ok, .inl (cK, 600, .inl km.1))] → va_S A s.heap H locs → ∀ (ls : Array Slot), lv_has ls 6 [(0, .ref om), (1, .int p0), (2, .long v), (4, .int k)] → W p l e (headSpec (Cond.code yX3_get cX3_get 6 (some .long) :: G) ({ frames := 2, cells := 0, slots := 0, locals := 47 } : Room)).room s m args below meth c H locs 0 0 (MQ below (va_Ql (fun (r : Int64) (u : Int32 × Tk × Int32 × Tk) => (r, u) = z) (fun (u : Int32 × Tk × Int32 × Tk) (t : State) => va_P (dC, dI) vwCl [(om, .inr (3, [.int u.1, .int st, .int lo, .ref ob, .int bm.2.1, .int bm.2.2.1, .int bm.2.2.2.1, .int bm.2.2.2.2, .ref ok, .int km.2, .int u.2.1.1, .int u.2.1.2.1, .int u.2.1.2.2.1, .int u.2.1.2.2.2, .int u.2.2.1, .int u.2.2.2.1, .int u.2.2.2.2.1, .int u.2.2.2.2.2.1, .int u.2.2.2.2.2.2])), (ob, .inl (cZ, 5200, .inl bm.1)), (ok, .inl (cK, 600, .inl km.1))] t.heap ∧ va_D A [(om, .inr (3, [.int u.1, .int st, .int lo, .ref ob, .int bm.2.1, .int bm.2.2.1, .int bm.2.2.2.1, .int bm.2.2.2.2, .ref ok, .int km.2, .int u.2.1.1, .int u.2.1.2.1, .int u.2.1.2.2.1, .int u.2.1.2.2.2, .int u.2.2.1, .int u.2.2.2.1, .int u.2.2.2.2.1, .int u.2.2.2.2.2.1, .int u.2.2.2.2.2.2])), (ob, .inl (cZ, 5200, .inl bm.1)), (ok, .inl (cK, 600, .inl km.1))]) A) args s 0 0 A) (F0 m 50 ls []) := by
  intro n
  induction n with
  | zero =>
    intro th bm km qm bd ym p0 v k hf hY hz
    exact absurd hf.1 (Nat.lt_irrefl 0)
  | succ n ih =>
    intro th bm km qm bd ym p0 v k hf hY hz H locs hP hD hS ls hl
    refine lv_iload hx hb dX3_get_50 (lv_at hl 3 rfl) ?_
    refine lv_iload_n hx hb dX3_get_52 rfl (lv_at hl 1 rfl) ?_
    refine lv_icmp_ge (tgt := 121) hx hb dX3_get_53 (by decide) (fun c_53 => ?_) (fun c_53 => ?_)
    · refine lv_aload_n hx hb dX3_get_121 rfl (lv_at hl 0 rfl) ?_
      have hPc := hP.sub (ws' := [(om, .inr (3, [.int th, .int st, .int lo, .ref ob, .int bm.2.1, .int bm.2.2.1, .int bm.2.2.2.1, .int bm.2.2.2.2, .ref ok, .int km.2, .int qm.1, .int qm.2.1, .int qm.2.2.1, .int qm.2.2.2, .int bd, .int ym.1, .int ym.2.1, .int ym.2.2.1, .int ym.2.2.2])), (ob, .inl (cZ, 5200, .inl bm.1)), (ok, .inl (cK, 600, .inl km.1))]) [0, 1, 2] rfl
      have hKc := hK.sub (tys' := [(cZ, .boolean), (cK, .int)]) [0, 1] rfl
      have hDc := hD.sub (ws' := [(om, .inr (3, [.int th, .int st, .int lo, .ref ob, .int bm.2.1, .int bm.2.2.1, .int bm.2.2.2.1, .int bm.2.2.2.2, .ref ok, .int km.2, .int qm.1, .int qm.2.1, .int qm.2.2.1, .int qm.2.2.2, .int bd, .int ym.1, .int ym.2.1, .int ym.2.2.1, .int ym.2.2.2])), (ob, .inl (cZ, 5200, .inl bm.1)), (ok, .inl (cK, 600, .inl km.1))]) [0, 1, 2] (by decide) rfl
      have hFc := va_free (wc := [(om, .inr (3, [.int th, .int st, .int lo, .ref ob, .int bm.2.1, .int bm.2.2.1, .int bm.2.2.2.1, .int bm.2.2.2.2, .ref ok, .int km.2, .int qm.1, .int qm.2.1, .int qm.2.2.1, .int qm.2.2.2, .int bd, .int ym.1, .int ym.2.1, .int ym.2.2.1, .int ym.2.2.2])), (ob, .inl (cZ, 5200, .inl bm.1)), (ok, .inl (cK, 600, .inl km.1))]) hD hS hA [0, 1, 2] rfl
      refine va_callv (va_runV (As := []) (rest := []) ⟨hx, hb, hml, hown, hts⟩ (mX3_keepTry l dC dI cZ cK om ob ok H.size st lo th bm km qm bd ym hY.2) (cwV 0 hts (gV wd576 wd577 wd23 wd30 wd578) rfl rfl rfl (by decide +kernel) ⟨Nat.le_of_ble_eq_true rfl, Nat.le_of_ble_eq_true rfl⟩) ⟨fb_rw, va_recv hKc hPc (ci := 3) (q0 := 0) rfl rfl, pre_rw hPc hKc hDc hZ⟩ rfl rfl hl.1 rfl (lv_room (Nat.le_of_ble_eq_true rfl)) dX3_get_122 ⟨Nat.le_of_ble_eq_true rfl, Nat.le_of_ble_eq_true rfl⟩) hS (fun q _ h => hFc q h) hFc (fun u_2 t H1 locs ht hvm hw_1 hB hz1 hk1 hS => ?_)
      obtain ⟨hP1, hD1⟩ := hB
      rw [ht] at hP1
      obtain ⟨hP, hD⟩ := va_join (wr := []) (w1 := [(om, .inr (3, [.int th, .int st, .int lo, .ref ob, .int bm.2.1, .int bm.2.2.1, .int bm.2.2.2.1, .int bm.2.2.2.2, .ref ok, .int km.2, .int u_2.1, .int u_2.2.1, .int u_2.2.2.1, .int u_2.2.2.2, .int bd, .int ym.1, .int ym.2.1, .int ym.2.2.1, .int ym.2.2.2])), (ob, .inl (cZ, 5200, .inl bm.1)), (ok, .inl (cK, 600, .inl km.1))]) hP hD [0, 1, 2] [] rfl rfl (by decide) (by decide) hk1 hFc hP1 hD1
      generalize H1 = H at hP hS ⊢
      have hP : va_P (dC, dI) vwCl [(om, .inr (3, [.int th, .int st, .int lo, .ref ob, .int bm.2.1, .int bm.2.2.1, .int bm.2.2.2.1, .int bm.2.2.2.2, .ref ok, .int km.2, .int u_2.1, .int u_2.2.1, .int u_2.2.2.1, .int u_2.2.2.2, .int bd, .int ym.1, .int ym.2.1, .int ym.2.2.1, .int ym.2.2.2])), (ob, .inl (cZ, 5200, .inl bm.1)), (ok, .inl (cK, 600, .inl km.1))] H := hP
      have hD : va_D A [(om, .inr (3, [.int th, .int st, .int lo, .ref ob, .int bm.2.1, .int bm.2.2.1, .int bm.2.2.2.1, .int bm.2.2.2.2, .ref ok, .int km.2, .int u_2.1, .int u_2.2.1, .int u_2.2.2.1, .int u_2.2.2.2, .int bd, .int ym.1, .int ym.2.1, .int ym.2.2.1, .int ym.2.2.2])), (ob, .inl (cZ, 5200, .inl bm.1)), (ok, .inl (cK, 600, .inl km.1))] := hD
      refine lv_lload_n hx hb dX3_get_125 rfl (lv_at hl 2 rfl) ?_
      have hP9 := hP.sub (ws' := [(om, .inr (3, [.int th, .int st, .int lo, .ref ob, .int bm.2.1, .int bm.2.2.1, .int bm.2.2.2.1, .int bm.2.2.2.2, .ref ok, .int km.2, .int u_2.1, .int u_2.2.1, .int u_2.2.2.1, .int u_2.2.2.2, .int bd, .int ym.1, .int ym.2.1, .int ym.2.2.1, .int ym.2.2.2])), (ob, .inl (cZ, 5200, .inl bm.1)), (ok, .inl (cK, 600, .inl km.1))]) [0, 1, 2] rfl
      have hD9 := hD.sub (ws' := [(om, .inr (3, [.int th, .int st, .int lo, .ref ob, .int bm.2.1, .int bm.2.2.1, .int bm.2.2.2.1, .int bm.2.2.2.2, .ref ok, .int km.2, .int u_2.1, .int u_2.2.1, .int u_2.2.2.1, .int u_2.2.2.2, .int bd, .int ym.1, .int ym.2.1, .int ym.2.2.1, .int ym.2.2.2])), (ob, .inl (cZ, 5200, .inl bm.1)), (ok, .inl (cK, 600, .inl km.1))]) [0, 1, 2] (by decide) rfl
      exact W.lret (v := v) hx hb hr (fun t ht hW => ⟨⟨v, (th, u_2, bd, ym), rfl, ((plX3_get_l50_0 st lo n th bm km qm bd ym p0 v k c_53 _ hw_1).trans hz), by rw [ht]; exact hP9, hD9⟩, hS.F ht⟩) hS.2.2 dX3_get_126
    · refine lv_aload_n hx hb dX3_get_56 rfl (lv_at hl 0 rfl) ?_
      have hPc := hP.sub (ws' := [(om, .inr (3, [.int th, .int st, .int lo, .ref ob, .int bm.2.1, .int bm.2.2.1, .int bm.2.2.2.1, .int bm.2.2.2.2, .ref ok, .int km.2, .int qm.1, .int qm.2.1, .int qm.2.2.1, .int qm.2.2.2, .int bd, .int ym.1, .int ym.2.1, .int ym.2.2.1, .int ym.2.2.2])), (ob, .inl (cZ, 5200, .inl bm.1)), (ok, .inl (cK, 600, .inl km.1))]) [0, 1, 2] rfl
      have hKc := hK.sub (tys' := [(cZ, .boolean), (cK, .int)]) [0, 1] rfl
      have hDc := hD.sub (ws' := [(om, .inr (3, [.int th, .int st, .int lo, .ref ob, .int bm.2.1, .int bm.2.2.1, .int bm.2.2.2.1, .int bm.2.2.2.2, .ref ok, .int km.2, .int qm.1, .int qm.2.1, .int qm.2.2.1, .int qm.2.2.2, .int bd, .int ym.1, .int ym.2.1, .int ym.2.2.1, .int ym.2.2.2])), (ob, .inl (cZ, 5200, .inl bm.1)), (ok, .inl (cK, 600, .inl km.1))]) [0, 1, 2] (by decide) rfl
      have hFc := va_free (wc := [(om, .inr (3, [.int th, .int st, .int lo, .ref ob, .int bm.2.1, .int bm.2.2.1, .int bm.2.2.2.1, .int bm.2.2.2.2, .ref ok, .int km.2, .int qm.1, .int qm.2.1, .int qm.2.2.1, .int qm.2.2.2, .int bd, .int ym.1, .int ym.2.1, .int ym.2.2.1, .int ym.2.2.2])), (ob, .inl (cZ, 5200, .inl bm.1)), (ok, .inl (cK, 600, .inl km.1))]) hD hS hA [0, 1, 2] rfl
      refine va_calli (va_runV (As := []) (rest := []) ⟨hx, hb, hml, hown, hts⟩ (mX3_tryBit l dC dI cZ cK om ob ok H.size st lo th bm km qm bd ym hY) (cwV 0 hts (gV wd563 wd564 wd19 wd30 wd565) rfl rfl rfl (by decide +kernel) ⟨Nat.le_of_ble_eq_true rfl, Nat.le_of_ble_eq_true rfl⟩) ⟨fb_rw, va_recv hKc hPc (ci := 3) (q0 := 0) rfl rfl, pre_rw hPc hKc hDc hZ⟩ rfl rfl hl.1 rfl (lv_room (Nat.le_of_ble_eq_true rfl)) dX3_get_57 ⟨Nat.le_of_ble_eq_true rfl, Nat.le_of_ble_eq_true rfl⟩) hS (fun q _ h => hFc q h) hFc (fun r_3 u_5 t H1 locs ht hvm hw_4 hB hz1 hk1 hS => ?_)
      obtain ⟨hP1, hD1⟩ := hB
      rw [ht] at hP1
      obtain ⟨hP, hD⟩ := va_join (wr := []) (w1 := [(om, .inr (3, [.int th, .int st, .int lo, .ref ob, .int bm.2.1, .int bm.2.2.1, .int bm.2.2.2.1, .int bm.2.2.2.2, .ref ok, .int km.2, .int qm.1, .int qm.2.1, .int qm.2.2.1, .int qm.2.2.2, .int bd, .int u_5.1, .int u_5.2.1, .int u_5.2.2.1, .int u_5.2.2.2])), (ob, .inl (cZ, 5200, .inl bm.1)), (ok, .inl (cK, 600, .inl km.1))]) hP hD [0, 1, 2] [] rfl rfl (by decide) (by decide) hk1 hFc hP1 hD1
      generalize H1 = H at hP hS ⊢
      have hP : va_P (dC, dI) vwCl [(om, .inr (3, [.int th, .int st, .int lo, .ref ob, .int bm.2.1, .int bm.2.2.1, .int bm.2.2.2.1, .int bm.2.2.2.2, .ref ok, .int km.2, .int qm.1, .int qm.2.1, .int qm.2.2.1, .int qm.2.2.2, .int bd, .int u_5.1, .int u_5.2.1, .int u_5.2.2.1, .int u_5.2.2.2])), (ob, .inl (cZ, 5200, .inl bm.1)), (ok, .inl (cK, 600, .inl km.1))] H := hP
      have hD : va_D A [(om, .inr (3, [.int th, .int st, .int lo, .ref ob, .int bm.2.1, .int bm.2.2.1, .int bm.2.2.2.1, .int bm.2.2.2.2, .ref ok, .int km.2, .int qm.1, .int qm.2.1, .int qm.2.2.1, .int qm.2.2.2, .int bd, .int u_5.1, .int u_5.2.1, .int u_5.2.2.1, .int u_5.2.2.2])), (ob, .inl (cZ, 5200, .inl bm.1)), (ok, .inl (cK, 600, .inl km.1))] := hD
      refine lv_istore (lv' := [(5, .int r_3), (0, .ref om), (1, .int p0), (2, .long v), (4, .int k)]) hx hb dX3_get_60 hl (by decide) rfl (fun ls hl => ?_)
      refine lv_iload hx hb dX3_get_62 (lv_at hl 0 rfl) ?_
      refine lv_if_ge (tgt := 87) hx hb dX3_get_64 (by decide) (fun c_64 => ?_) (fun c_64 => ?_)
      · refine lv_aload_n hx hb dX3_get_87 rfl (lv_at hl 1 rfl) ?_
        refine va_get (D := (dC, dI)) (ci := 3) (v := .int lo) (C := RX3) (T := TX3) (N := 19) hx hb hts inGX3 hown hK hP 0 rfl rfl 2 (by decide) (hts _ wd439) (fun _ h9 => h9) rfl dX3_get_88 ?_
        refine lv_if_eq (tgt := 105) hx hb dX3_get_91 (by decide) (fun c_91 => ?_) (fun c_91 => ?_)
        · refine lv_ldc2 (v := 2) hx hb hown (hts _ wd575) dX3_get_105 ?_
          refine lv_lload_n hx hb dX3_get_108 rfl (lv_at hl 3 rfl) ?_
          refine lv_lmul hx hb dX3_get_109 ?_
          refine lv_iload hx hb dX3_get_110 (lv_at hl 0 rfl) ?_
          refine lv_i2l (v := r_3.toInt64) hx hb dX3_get_112 rfl ?_
          refine lv_ladd hx hb dX3_get_113 ?_
          refine lv_topl (fun x_6 ex_6 => ?_)
          refine lv_lstore_n (lv' := [(2, .long x_6), (5, .int r_3), (0, .ref om), (1, .int p0), (4, .int k)]) hx hb dX3_get_114 rfl hl (by decide) rfl (fun ls hl => ?_)
          obtain ⟨i_7, ei_7⟩ : ∃ y : Int32, y = k + 1 := ⟨_, rfl⟩
          refine lv_iinc (v := i_7) (lv' := [(4, .int i_7), (2, .long x_6), (5, .int r_3), (0, .ref om), (1, .int p0)]) hx hb dX3_get_115 hl (k := 4) rfl (by rw [ei_7]; rfl) (by decide) rfl (fun ls hl => ?_)
          refine lv_goto (tgt := 50) hx hb dX3_get_118 (by decide) ?_
          exact ih th bm km qm bd u_5 p0 x_6 i_7 (fuel_step2 hf (nle_lt c_53) (by assumption)) (try_yE hY (by assumption)) ((plX3_get_l50_1 st lo n th bm km qm bd ym p0 v k c_53 _ _ hw_4 c_64 c_91 _ ex_6 _ ei_7).trans hz) _ _ (hP.sub (ws' := [(om, .inr (3, [.int th, .int st, .int lo, .ref ob, .int bm.2.1, .int bm.2.2.1, .int bm.2.2.2.1, .int bm.2.2.2.2, .ref ok, .int km.2, .int qm.1, .int qm.2.1, .int qm.2.2.1, .int qm.2.2.2, .int bd, .int u_5.1, .int u_5.2.1, .int u_5.2.2.1, .int u_5.2.2.2])), (ob, .inl (cZ, 5200, .inl bm.1)), (ok, .inl (cK, 600, .inl km.1))]) [0, 1, 2] rfl) (hD.sub (ws' := [(om, .inr (3, [.int th, .int st, .int lo, .ref ob, .int bm.2.1, .int bm.2.2.1, .int bm.2.2.2.1, .int bm.2.2.2.2, .ref ok, .int km.2, .int qm.1, .int qm.2.1, .int qm.2.2.1, .int qm.2.2.2, .int bd, .int u_5.1, .int u_5.2.1, .int u_5.2.2.1, .int u_5.2.2.2])), (ob, .inl (cZ, 5200, .inl bm.1)), (ok, .inl (cK, 600, .inl km.1))]) [0, 1, 2] (by decide) rfl) hS ls (lv_sub hl [3, 4, 1, 0] rfl)
        · refine lv_lload_n hx hb dX3_get_94 rfl (lv_at hl 3 rfl) ?_
          refine lv_iload hx hb dX3_get_95 (lv_at hl 0 rfl) ?_
          refine lv_i2l (v := r_3.toInt64) hx hb dX3_get_97 rfl ?_
          refine lv_iload hx hb dX3_get_98 (lv_at hl 4 rfl) ?_
          refine lv_lshl (v := r_3.toInt64 <<< (k.toInt64 &&& 63)) hx hb dX3_get_100 rfl ?_
          refine lv_lor hx hb dX3_get_101 ?_
          refine lv_goto (tgt := 114) hx hb dX3_get_102 (by decide) ?_
          refine lv_topl (fun x_8 ex_8 => ?_)
          refine lv_lstore_n (lv' := [(2, .long x_8), (5, .int r_3), (0, .ref om), (1, .int p0), (4, .int k)]) hx hb dX3_get_114 rfl hl (by decide) rfl (fun ls hl => ?_)
          obtain ⟨i_9, ei_9⟩ : ∃ y : Int32, y = k + 1 := ⟨_, rfl⟩
          refine lv_iinc (v := i_9) (lv' := [(4, .int i_9), (2, .long x_8), (5, .int r_3), (0, .ref om), (1, .int p0)]) hx hb dX3_get_115 hl (k := 4) rfl (by rw [ei_9]; rfl) (by decide) rfl (fun ls hl => ?_)
          refine lv_goto (tgt := 50) hx hb dX3_get_118 (by decide) ?_
          exact ih th bm km qm bd u_5 p0 x_8 i_9 (fuel_step2 hf (nle_lt c_53) (by assumption)) (try_yE hY (by assumption)) ((plX3_get_l50_2 st lo n th bm km qm bd ym p0 v k c_53 _ _ hw_4 c_64 c_91 _ ex_8 _ ei_9).trans hz) _ _ (hP.sub (ws' := [(om, .inr (3, [.int th, .int st, .int lo, .ref ob, .int bm.2.1, .int bm.2.2.1, .int bm.2.2.2.1, .int bm.2.2.2.2, .ref ok, .int km.2, .int qm.1, .int qm.2.1, .int qm.2.2.1, .int qm.2.2.2, .int bd, .int u_5.1, .int u_5.2.1, .int u_5.2.2.1, .int u_5.2.2.2])), (ob, .inl (cZ, 5200, .inl bm.1)), (ok, .inl (cK, 600, .inl km.1))]) [0, 1, 2] rfl) (hD.sub (ws' := [(om, .inr (3, [.int th, .int st, .int lo, .ref ob, .int bm.2.1, .int bm.2.2.1, .int bm.2.2.2.1, .int bm.2.2.2.2, .ref ok, .int km.2, .int qm.1, .int qm.2.1, .int qm.2.2.1, .int qm.2.2.2, .int bd, .int u_5.1, .int u_5.2.1, .int u_5.2.2.1, .int u_5.2.2.2])), (ob, .inl (cZ, 5200, .inl bm.1)), (ok, .inl (cK, 600, .inl km.1))]) [0, 1, 2] (by decide) rfl) hS ls (lv_sub hl [3, 4, 1, 0] rfl)
      · refine lv_aload_n hx hb dX3_get_67 rfl (lv_at hl 1 rfl) ?_
        refine lv_iload hx hb dX3_get_68 (lv_at hl 0 rfl) ?_
        refine lv_bipush (v := (-3)) hx hb dX3_get_70 (by decide) ?_
        refine lv_icmp_ne (tgt := 79) hx hb dX3_get_72 (by decide) (fun c_72 => ?_) (fun c_72 => ?_)
        · refine lv_iconst (v := 0) hx hb dX3_get_79 (by decide) ?_
          refine va_put (D := (dC, dI)) (ci := 3) (v := .int 0) (ty := .boolean) (C := RX3) (T := TX3) (N := 19) hx hb hts inGX3 tyX3 tyX3_ok nmX3 hown hK hP hD hS 0 rfl rfl 14 (by decide) (hts _ wd451) (fun _ h9 => h9) rfl (by decide +kernel) rfl rfl (Nat.le_of_ble_eq_true rfl) dX3_get_80 (fun H locs hP hD hS => ?_)
          have hP : va_P (dC, dI) vwCl [(om, .inr (3, [.int th, .int st, .int lo, .ref ob, .int bm.2.1, .int bm.2.2.1, .int bm.2.2.2.1, .int bm.2.2.2.2, .ref ok, .int km.2, .int qm.1, .int qm.2.1, .int qm.2.2.1, .int qm.2.2.2, .int 0, .int u_5.1, .int u_5.2.1, .int u_5.2.2.1, .int u_5.2.2.2])), (ob, .inl (cZ, 5200, .inl bm.1)), (ok, .inl (cK, 600, .inl km.1))] H := hP
          have hD : va_D A [(om, .inr (3, [.int th, .int st, .int lo, .ref ob, .int bm.2.1, .int bm.2.2.1, .int bm.2.2.2.1, .int bm.2.2.2.2, .ref ok, .int km.2, .int qm.1, .int qm.2.1, .int qm.2.2.1, .int qm.2.2.2, .int 0, .int u_5.1, .int u_5.2.1, .int u_5.2.2.1, .int u_5.2.2.2])), (ob, .inl (cZ, 5200, .inl bm.1)), (ok, .inl (cK, 600, .inl km.1))] := hD
          refine lv_iload hx hb dX3_get_83 (lv_at hl 0 rfl) ?_
          refine lv_i2l (v := r_3.toInt64) hx hb dX3_get_85 rfl ?_
          have hP9 := hP.sub (ws' := [(om, .inr (3, [.int th, .int st, .int lo, .ref ob, .int bm.2.1, .int bm.2.2.1, .int bm.2.2.2.1, .int bm.2.2.2.2, .ref ok, .int km.2, .int qm.1, .int qm.2.1, .int qm.2.2.1, .int qm.2.2.2, .int 0, .int u_5.1, .int u_5.2.1, .int u_5.2.2.1, .int u_5.2.2.2])), (ob, .inl (cZ, 5200, .inl bm.1)), (ok, .inl (cK, 600, .inl km.1))]) [0, 1, 2] rfl
          have hD9 := hD.sub (ws' := [(om, .inr (3, [.int th, .int st, .int lo, .ref ob, .int bm.2.1, .int bm.2.2.1, .int bm.2.2.2.1, .int bm.2.2.2.2, .ref ok, .int km.2, .int qm.1, .int qm.2.1, .int qm.2.2.1, .int qm.2.2.2, .int 0, .int u_5.1, .int u_5.2.1, .int u_5.2.2.1, .int u_5.2.2.2])), (ob, .inl (cZ, 5200, .inl bm.1)), (ok, .inl (cK, 600, .inl km.1))]) [0, 1, 2] (by decide) rfl
          exact W.lret (v := r_3.toInt64) hx hb hr (fun t ht hW => ⟨⟨r_3.toInt64, (th, qm, 0, u_5), rfl, ((plX3_get_l50_3 st lo n th bm km qm bd ym p0 v k c_53 _ _ hw_4 c_64 c_72).trans hz), by rw [ht]; exact hP9, hD9⟩, hS.F ht⟩) hS.2.2 dX3_get_86
        · refine lv_iconst (v := 1) hx hb dX3_get_75 (by decide) ?_
          refine lv_goto (tgt := 80) hx hb dX3_get_76 (by decide) ?_
          refine va_put (D := (dC, dI)) (ci := 3) (v := .int 1) (ty := .boolean) (C := RX3) (T := TX3) (N := 19) hx hb hts inGX3 tyX3 tyX3_ok nmX3 hown hK hP hD hS 0 rfl rfl 14 (by decide) (hts _ wd451) (fun _ h9 => h9) rfl (by decide +kernel) rfl rfl (Nat.le_of_ble_eq_true rfl) dX3_get_80 (fun H locs hP hD hS => ?_)
          have hP : va_P (dC, dI) vwCl [(om, .inr (3, [.int th, .int st, .int lo, .ref ob, .int bm.2.1, .int bm.2.2.1, .int bm.2.2.2.1, .int bm.2.2.2.2, .ref ok, .int km.2, .int qm.1, .int qm.2.1, .int qm.2.2.1, .int qm.2.2.2, .int 1, .int u_5.1, .int u_5.2.1, .int u_5.2.2.1, .int u_5.2.2.2])), (ob, .inl (cZ, 5200, .inl bm.1)), (ok, .inl (cK, 600, .inl km.1))] H := hP
          have hD : va_D A [(om, .inr (3, [.int th, .int st, .int lo, .ref ob, .int bm.2.1, .int bm.2.2.1, .int bm.2.2.2.1, .int bm.2.2.2.2, .ref ok, .int km.2, .int qm.1, .int qm.2.1, .int qm.2.2.1, .int qm.2.2.2, .int 1, .int u_5.1, .int u_5.2.1, .int u_5.2.2.1, .int u_5.2.2.2])), (ob, .inl (cZ, 5200, .inl bm.1)), (ok, .inl (cK, 600, .inl km.1))] := hD
          refine lv_iload hx hb dX3_get_83 (lv_at hl 0 rfl) ?_
          refine lv_i2l (v := r_3.toInt64) hx hb dX3_get_85 rfl ?_
          have hP9 := hP.sub (ws' := [(om, .inr (3, [.int th, .int st, .int lo, .ref ob, .int bm.2.1, .int bm.2.2.1, .int bm.2.2.2.1, .int bm.2.2.2.2, .ref ok, .int km.2, .int qm.1, .int qm.2.1, .int qm.2.2.1, .int qm.2.2.2, .int 1, .int u_5.1, .int u_5.2.1, .int u_5.2.2.1, .int u_5.2.2.2])), (ob, .inl (cZ, 5200, .inl bm.1)), (ok, .inl (cK, 600, .inl km.1))]) [0, 1, 2] rfl
          have hD9 := hD.sub (ws' := [(om, .inr (3, [.int th, .int st, .int lo, .ref ob, .int bm.2.1, .int bm.2.2.1, .int bm.2.2.2.1, .int bm.2.2.2.2, .ref ok, .int km.2, .int qm.1, .int qm.2.1, .int qm.2.2.1, .int qm.2.2.2, .int 1, .int u_5.1, .int u_5.2.1, .int u_5.2.2.1, .int u_5.2.2.2])), (ob, .inl (cZ, 5200, .inl bm.1)), (ok, .inl (cK, 600, .inl km.1))]) [0, 1, 2] (by decide) rfl
          exact W.lret (v := r_3.toInt64) hx hb hr (fun t ht hW => ⟨⟨r_3.toInt64, (th, qm, 1, u_5), rfl, ((plX3_get_l50_4 st lo n th bm km qm bd ym p0 v k c_53 _ _ hw_4 c_64 c_72).trans hz), by rw [ht]; exact hP9, hD9⟩, hS.F ht⟩) hS.2.2 dX3_get_86
set_option maxHeartbeats 4000000 in
set_option maxRecDepth 100000 in
theorem kX3_get_18 {p : Program} {l : Launch} {e : Env} {s : State} {m : MethodId} {args : Array Value} {below : List Frame} {meth : Method} {c : Code} {dC : Nat → ClassId} {dI : Nat → Nat → Nat} {cZ cK : ClassId} {om ob ok : Nat} {st : Int32} {lo : Int32} {z : Int64 × Int32 × Tk × Int32 × Tk} {A : Nat → Prop} (hx : p.tables.exec = Jvm.exec) (hb : c.code = cX3_get) (hr : meth.sig.returnType = (some .long)) (hml : c.maxLocals = 6) (hown : s.vm.findClass RX3 = some m.cls) (hts : ∀ w ∈ G, w.before args s = true) (hlocks : meth.locks = false) (hA : ∀ q : Nat, s.heap.size ≤ q → A q) (hZ : zOk s) (hK : va_K (dC, dI) vwCl [(cZ, .boolean), (cK, .int)] s) : ∀ (th : Int32) (bm : Bm) (km : Rw) (qm : Tk) (bd : Int32) (ym : Tk) (p0 : Int32) (v : Int32), (yOk km qm) → LX3_get_18 st lo th bm km qm bd ym p0 v = z → ∀ (H : Heap) (locs : List Loc), va_P (dC, dI) vwCl [(om, .inr (3, [.int th, .int st, .int lo, .ref ob, .int bm.2.1, .int bm.2.2.1, .int bm.2.2.2.1, .int bm.2.2.2.2, .ref ok, .int km.2, .int qm.1, .int qm.2.1, .int qm.2.2.1, .int qm.2.2.2, .int bd, .int ym.1, .int ym.2.1, .int ym.2.2.1, .int ym.2.2.2])), (ob, .inl (cZ, 5200, .inl bm.1)), (ok, .inl (cK, 600, .inl km.1))] H → va_D A [(om, .inr (3, [.int th, .int st, .int lo, .ref ob, .int bm.2.1, .int bm.2.2.1, .int bm.2.2.2.1, .int bm.2.2.2.2, .ref ok, .int km.2, .int qm.1, .int qm.2.1, .int qm.2.2.1, .int qm.2.2.2, .int bd, .int ym.1, .int ym.2.1, .int ym.2.2.1, .int ym.2.2.2])), (ob, .inl (cZ, 5200, .inl bm.1)), (ok, .inl (cK, 600, .inl km.1))] → va_S A s.heap H locs → ∀ (ls : Array Slot), lv_has ls 6 [(0, .ref om), (1, .int p0)] → W p l e (headSpec (Cond.code yX3_get cX3_get 6 (some .long) :: G) ({ frames := 2, cells := 0, slots := 0, locals := 47 } : Room)).room s m args below meth c H locs 0 0 (MQ below (va_Ql (fun (r : Int64) (u : Int32 × Tk × Int32 × Tk) => (r, u) = z) (fun (u : Int32 × Tk × Int32 × Tk) (t : State) => va_P (dC, dI) vwCl [(om, .inr (3, [.int u.1, .int st, .int lo, .ref ob, .int bm.2.1, .int bm.2.2.1, .int bm.2.2.2.1, .int bm.2.2.2.2, .ref ok, .int km.2, .int u.2.1.1, .int u.2.1.2.1, .int u.2.1.2.2.1, .int u.2.1.2.2.2, .int u.2.2.1, .int u.2.2.2.1, .int u.2.2.2.2.1, .int u.2.2.2.2.2.1, .int u.2.2.2.2.2.2])), (ob, .inl (cZ, 5200, .inl bm.1)), (ok, .inl (cK, 600, .inl km.1))] t.heap ∧ va_D A [(om, .inr (3, [.int u.1, .int st, .int lo, .ref ob, .int bm.2.1, .int bm.2.2.1, .int bm.2.2.2.1, .int bm.2.2.2.2, .ref ok, .int km.2, .int u.2.1.1, .int u.2.1.2.1, .int u.2.1.2.2.1, .int u.2.1.2.2.2, .int u.2.2.1, .int u.2.2.2.1, .int u.2.2.2.2.1, .int u.2.2.2.2.2.1, .int u.2.2.2.2.2.2])), (ob, .inl (cZ, 5200, .inl bm.1)), (ok, .inl (cK, 600, .inl km.1))]) A) args s 0 0 A) (F0 m 18 ls [.int v, .ref om]) := by
  intro th bm km qm bd ym p0 v hq hz H locs hP hD hS ls hl
  refine va_put (D := (dC, dI)) (ci := 3) (v := .int v) (ty := .int) (C := RX3) (T := TX3) (N := 19) hx hb hts inGX3 tyX3 tyX3_ok nmX3 hown hK hP hD hS 0 rfl rfl 0 (by decide) (hts _ wd437) (fun _ h9 => h9) rfl (by decide +kernel) rfl rfl (Nat.le_of_ble_eq_true rfl) dX3_get_18 (fun H locs hP hD hS => ?_)
  have hP : va_P (dC, dI) vwCl [(om, .inr (3, [.int v, .int st, .int lo, .ref ob, .int bm.2.1, .int bm.2.2.1, .int bm.2.2.2.1, .int bm.2.2.2.2, .ref ok, .int km.2, .int qm.1, .int qm.2.1, .int qm.2.2.1, .int qm.2.2.2, .int bd, .int ym.1, .int ym.2.1, .int ym.2.2.1, .int ym.2.2.2])), (ob, .inl (cZ, 5200, .inl bm.1)), (ok, .inl (cK, 600, .inl km.1))] H := hP
  have hD : va_D A [(om, .inr (3, [.int v, .int st, .int lo, .ref ob, .int bm.2.1, .int bm.2.2.1, .int bm.2.2.2.1, .int bm.2.2.2.2, .ref ok, .int km.2, .int qm.1, .int qm.2.1, .int qm.2.2.1, .int qm.2.2.2, .int bd, .int ym.1, .int ym.2.1, .int ym.2.2.1, .int ym.2.2.2])), (ob, .inl (cZ, 5200, .inl bm.1)), (ok, .inl (cK, 600, .inl km.1))] := hD
  refine lv_aload_n hx hb dX3_get_21 rfl (lv_at hl 0 rfl) ?_
  refine va_get (D := (dC, dI)) (ci := 3) (v := .int v) (C := RX3) (T := TX3) (N := 19) hx hb hts inGX3 hown hK hP 0 rfl rfl 0 (by decide) (hts _ wd437) (fun _ h9 => h9) rfl dX3_get_22 ?_
  refine lv_if_le (tgt := 30) hx hb dX3_get_25 (by decide) (fun c_25 => ?_) (fun c_25 => ?_)
  · refine lv_aload_n hx hb dX3_get_30 rfl (lv_at hl 0 rfl) ?_
    refine va_get (D := (dC, dI)) (ci := 3) (v := .int bd) (C := RX3) (T := TX3) (N := 19) hx hb hts inGX3 hown hK hP 0 rfl rfl 14 (by decide) (hts _ wd451) (fun _ h9 => h9) rfl dX3_get_31 ?_
    refine lv_if_eq (tgt := 41) hx hb dX3_get_34 (by decide) (fun c_34 => ?_) (fun c_34 => ?_)
    · refine lv_aload_n hx hb dX3_get_41 rfl (lv_at hl 0 rfl) ?_
      have hPc := hP.sub (ws' := [(om, .inr (3, [.int v, .int st, .int lo, .ref ob, .int bm.2.1, .int bm.2.2.1, .int bm.2.2.2.1, .int bm.2.2.2.2, .ref ok, .int km.2, .int qm.1, .int qm.2.1, .int qm.2.2.1, .int qm.2.2.2, .int bd, .int ym.1, .int ym.2.1, .int ym.2.2.1, .int ym.2.2.2])), (ob, .inl (cZ, 5200, .inl bm.1)), (ok, .inl (cK, 600, .inl km.1))]) [0, 1, 2] rfl
      have hKc := hK.sub (tys' := [(cZ, .boolean), (cK, .int)]) [0, 1] rfl
      have hDc := hD.sub (ws' := [(om, .inr (3, [.int v, .int st, .int lo, .ref ob, .int bm.2.1, .int bm.2.2.1, .int bm.2.2.2.1, .int bm.2.2.2.2, .ref ok, .int km.2, .int qm.1, .int qm.2.1, .int qm.2.2.1, .int qm.2.2.2, .int bd, .int ym.1, .int ym.2.1, .int ym.2.2.1, .int ym.2.2.2])), (ob, .inl (cZ, 5200, .inl bm.1)), (ok, .inl (cK, 600, .inl km.1))]) [0, 1, 2] (by decide) rfl
      have hFc := va_free (wc := [(om, .inr (3, [.int v, .int st, .int lo, .ref ob, .int bm.2.1, .int bm.2.2.1, .int bm.2.2.2.1, .int bm.2.2.2.2, .ref ok, .int km.2, .int qm.1, .int qm.2.1, .int qm.2.2.1, .int qm.2.2.2, .int bd, .int ym.1, .int ym.2.1, .int ym.2.2.1, .int ym.2.2.2])), (ob, .inl (cZ, 5200, .inl bm.1)), (ok, .inl (cK, 600, .inl km.1))]) hD hS hA [0, 1, 2] rfl
      refine va_callv (va_runV (As := []) (rest := []) ⟨hx, hb, hml, hown, hts⟩ (mX3_beginTry l dC dI cZ cK om ob ok H.size st lo v bm km qm bd ym hq.2) (cwV 0 hts (gV wd560 wd561 wd18 wd30 wd562) rfl rfl rfl (by decide +kernel) ⟨Nat.le_of_ble_eq_true rfl, Nat.le_of_ble_eq_true rfl⟩) ⟨fb_rw, va_recv hKc hPc (ci := 3) (q0 := 0) rfl rfl, pre_rw hPc hKc hDc hZ⟩ rfl rfl hl.1 rfl (lv_room (Nat.le_of_ble_eq_true rfl)) dX3_get_42 ⟨Nat.le_of_ble_eq_true rfl, Nat.le_of_ble_eq_true rfl⟩) hS (fun q _ h => hFc q h) hFc (fun u_2 t H1 locs ht hvm hw_1 hB hz1 hk1 hS => ?_)
      obtain ⟨hP1, hD1⟩ := hB
      rw [ht] at hP1
      obtain ⟨hP, hD⟩ := va_join (wr := []) (w1 := [(om, .inr (3, [.int v, .int st, .int lo, .ref ob, .int bm.2.1, .int bm.2.2.1, .int bm.2.2.2.1, .int bm.2.2.2.2, .ref ok, .int km.2, .int qm.1, .int qm.2.1, .int qm.2.2.1, .int qm.2.2.2, .int bd, .int u_2.1, .int u_2.2.1, .int u_2.2.2.1, .int u_2.2.2.2])), (ob, .inl (cZ, 5200, .inl bm.1)), (ok, .inl (cK, 600, .inl km.1))]) hP hD [0, 1, 2] [] rfl rfl (by decide) (by decide) hk1 hFc hP1 hD1
      generalize H1 = H at hP hS ⊢
      have hP : va_P (dC, dI) vwCl [(om, .inr (3, [.int v, .int st, .int lo, .ref ob, .int bm.2.1, .int bm.2.2.1, .int bm.2.2.2.1, .int bm.2.2.2.2, .ref ok, .int km.2, .int qm.1, .int qm.2.1, .int qm.2.2.1, .int qm.2.2.2, .int bd, .int u_2.1, .int u_2.2.1, .int u_2.2.2.1, .int u_2.2.2.2])), (ob, .inl (cZ, 5200, .inl bm.1)), (ok, .inl (cK, 600, .inl km.1))] H := hP
      have hD : va_D A [(om, .inr (3, [.int v, .int st, .int lo, .ref ob, .int bm.2.1, .int bm.2.2.1, .int bm.2.2.2.1, .int bm.2.2.2.2, .ref ok, .int km.2, .int qm.1, .int qm.2.1, .int qm.2.2.1, .int qm.2.2.2, .int bd, .int u_2.1, .int u_2.2.1, .int u_2.2.2.1, .int u_2.2.2.2])), (ob, .inl (cZ, 5200, .inl bm.1)), (ok, .inl (cK, 600, .inl km.1))] := hD
      refine lv_lconst (v := 0) hx hb dX3_get_45 (by decide) ?_
      refine lv_lstore_n (lv' := [(2, .long 0), (0, .ref om), (1, .int p0)]) hx hb dX3_get_46 rfl hl (by decide) rfl (fun ls hl => ?_)
      refine lv_iconst (v := 0) hx hb dX3_get_47 (by decide) ?_
      refine lv_istore (lv' := [(4, .int 0), (2, .long 0), (0, .ref om), (1, .int p0)]) hx hb dX3_get_48 hl (by decide) rfl (fun ls hl => ?_)
      exact kX3_get_50 hx hb hr hml hown hts hlocks hA hZ hK (fz 0 p0) v bm km qm bd u_2 p0 0 0 (fz_ok _ _) (bt_y hq (by assumption)) ((plX3_get_l18_0 st lo th bm km qm bd ym p0 v c_25 c_34 _ hw_1).trans hz) _ _ (hP.sub (ws' := [(om, .inr (3, [.int v, .int st, .int lo, .ref ob, .int bm.2.1, .int bm.2.2.1, .int bm.2.2.2.1, .int bm.2.2.2.2, .ref ok, .int km.2, .int qm.1, .int qm.2.1, .int qm.2.2.1, .int qm.2.2.2, .int bd, .int u_2.1, .int u_2.2.1, .int u_2.2.2.1, .int u_2.2.2.2])), (ob, .inl (cZ, 5200, .inl bm.1)), (ok, .inl (cK, 600, .inl km.1))]) [0, 1, 2] rfl) (hD.sub (ws' := [(om, .inr (3, [.int v, .int st, .int lo, .ref ob, .int bm.2.1, .int bm.2.2.1, .int bm.2.2.2.1, .int bm.2.2.2.2, .ref ok, .int km.2, .int qm.1, .int qm.2.1, .int qm.2.2.1, .int qm.2.2.2, .int bd, .int u_2.1, .int u_2.2.1, .int u_2.2.2.1, .int u_2.2.2.2])), (ob, .inl (cZ, 5200, .inl bm.1)), (ok, .inl (cK, 600, .inl km.1))]) [0, 1, 2] (by decide) rfl) hS ls (lv_sub hl [2, 3, 1, 0] rfl)
    · refine lv_ldc2 (v := (-3)) hx hb hown (hts _ wd559) dX3_get_37 ?_
      have hP9 := hP.sub (ws' := [(om, .inr (3, [.int v, .int st, .int lo, .ref ob, .int bm.2.1, .int bm.2.2.1, .int bm.2.2.2.1, .int bm.2.2.2.2, .ref ok, .int km.2, .int qm.1, .int qm.2.1, .int qm.2.2.1, .int qm.2.2.2, .int bd, .int ym.1, .int ym.2.1, .int ym.2.2.1, .int ym.2.2.2])), (ob, .inl (cZ, 5200, .inl bm.1)), (ok, .inl (cK, 600, .inl km.1))]) [0, 1, 2] rfl
      have hD9 := hD.sub (ws' := [(om, .inr (3, [.int v, .int st, .int lo, .ref ob, .int bm.2.1, .int bm.2.2.1, .int bm.2.2.2.1, .int bm.2.2.2.2, .ref ok, .int km.2, .int qm.1, .int qm.2.1, .int qm.2.2.1, .int qm.2.2.2, .int bd, .int ym.1, .int ym.2.1, .int ym.2.2.1, .int ym.2.2.2])), (ob, .inl (cZ, 5200, .inl bm.1)), (ok, .inl (cK, 600, .inl km.1))]) [0, 1, 2] (by decide) rfl
      exact W.lret (v := (-3)) hx hb hr (fun t ht hW => ⟨⟨(-3), (v, qm, bd, ym), rfl, ((plX3_get_l18_1 st lo th bm km qm bd ym p0 v c_25 c_34).trans hz), by rw [ht]; exact hP9, hD9⟩, hS.F ht⟩) hS.2.2 dX3_get_40
  · refine lv_lconst (v := 0) hx hb dX3_get_28 (by decide) ?_
    have hP9 := hP.sub (ws' := [(om, .inr (3, [.int v, .int st, .int lo, .ref ob, .int bm.2.1, .int bm.2.2.1, .int bm.2.2.2.1, .int bm.2.2.2.2, .ref ok, .int km.2, .int qm.1, .int qm.2.1, .int qm.2.2.1, .int qm.2.2.2, .int bd, .int ym.1, .int ym.2.1, .int ym.2.2.1, .int ym.2.2.2])), (ob, .inl (cZ, 5200, .inl bm.1)), (ok, .inl (cK, 600, .inl km.1))]) [0, 1, 2] rfl
    have hD9 := hD.sub (ws' := [(om, .inr (3, [.int v, .int st, .int lo, .ref ob, .int bm.2.1, .int bm.2.2.1, .int bm.2.2.2.1, .int bm.2.2.2.2, .ref ok, .int km.2, .int qm.1, .int qm.2.1, .int qm.2.2.1, .int qm.2.2.2, .int bd, .int ym.1, .int ym.2.1, .int ym.2.2.1, .int ym.2.2.2])), (ob, .inl (cZ, 5200, .inl bm.1)), (ok, .inl (cK, 600, .inl km.1))]) [0, 1, 2] (by decide) rfl
    exact W.lret (v := 0) hx hb hr (fun t ht hW => ⟨⟨0, (v, qm, bd, ym), rfl, ((plX3_get_l18_2 st lo th bm km qm bd ym p0 v c_25).trans hz), by rw [ht]; exact hP9, hD9⟩, hS.F ht⟩) hS.2.2 dX3_get_29
set_option maxHeartbeats 4000000 in
set_option maxRecDepth 100000 in
theorem mX3_get (l : Launch) (dC : Nat → ClassId) (dI : Nat → Nat → Nat) (cZ cK : ClassId) (om ob ok : Nat) (sz : Nat) (st : Int32) (lo : Int32) (th : Int32) (bm : Bm) (km : Rw) (qm : Tk) (bd : Int32) (ym : Tk) (p0 : Int32) (hq : yOk km qm) : Met l yX3_get (Cond.code yX3_get cX3_get 6 (some .long) :: G) ({ frames := 2, cells := 0, slots := 0, locals := 47 } : Room) (va_Pc [.ref om, .int p0] (fun U => U.heap.size = sz ∧ va_P (dC, dI) vwCl [(om, .inr (3, [.int th, .int st, .int lo, .ref ob, .int bm.2.1, .int bm.2.2.1, .int bm.2.2.2.1, .int bm.2.2.2.2, .ref ok, .int km.2, .int qm.1, .int qm.2.1, .int qm.2.2.1, .int qm.2.2.2, .int bd, .int ym.1, .int ym.2.1, .int ym.2.2.1, .int ym.2.2.2])), (ob, .inl (cZ, 5200, .inl bm.1)), (ok, .inl (cK, 600, .inl km.1))] U.heap ∧ va_K (dC, dI) vwCl [(cZ, .boolean), (cK, .int)] U ∧ va_D (fun _ => True) [(om, .inr (3, [.int th, .int st, .int lo, .ref ob, .int bm.2.1, .int bm.2.2.1, .int bm.2.2.2.1, .int bm.2.2.2.2, .ref ok, .int km.2, .int qm.1, .int qm.2.1, .int qm.2.2.1, .int qm.2.2.2, .int bd, .int ym.1, .int ym.2.1, .int ym.2.2.1, .int ym.2.2.2])), (ob, .inl (cZ, 5200, .inl bm.1)), (ok, .inl (cK, 600, .inl km.1))] ∧ zOk U)) (va_Ql (fun (r : Int64) (u : Int32 × Tk × Int32 × Tk) => (r, u) = (FX3_get st lo th bm km qm bd ym p0)) (fun (u : Int32 × Tk × Int32 × Tk) (t : State) => va_P (dC, dI) vwCl [(om, .inr (3, [.int u.1, .int st, .int lo, .ref ob, .int bm.2.1, .int bm.2.2.1, .int bm.2.2.2.1, .int bm.2.2.2.2, .ref ok, .int km.2, .int u.2.1.1, .int u.2.1.2.1, .int u.2.1.2.2.1, .int u.2.1.2.2.2, .int u.2.2.1, .int u.2.2.2.1, .int u.2.2.2.2.1, .int u.2.2.2.2.2.1, .int u.2.2.2.2.2.2])), (ob, .inl (cZ, 5200, .inl bm.1)), (ok, .inl (cK, 600, .inl km.1))] t.heap ∧ va_D (va_A [(om, .inr (3, [.int th, .int st, .int lo, .ref ob, .int bm.2.1, .int bm.2.2.1, .int bm.2.2.2.1, .int bm.2.2.2.2, .ref ok, .int km.2, .int qm.1, .int qm.2.1, .int qm.2.2.1, .int qm.2.2.2, .int bd, .int ym.1, .int ym.2.1, .int ym.2.2.1, .int ym.2.2.2])), (ob, .inl (cZ, 5200, .inl bm.1)), (ok, .inl (cK, 600, .inl km.1))] sz) [(om, .inr (3, [.int u.1, .int st, .int lo, .ref ob, .int bm.2.1, .int bm.2.2.1, .int bm.2.2.2.1, .int bm.2.2.2.2, .ref ok, .int km.2, .int u.2.1.1, .int u.2.1.2.1, .int u.2.1.2.2.1, .int u.2.1.2.2.2, .int u.2.2.1, .int u.2.2.2.1, .int u.2.2.2.2.1, .int u.2.2.2.2.2.1, .int u.2.2.2.2.2.2])), (ob, .inl (cZ, 5200, .inl bm.1)), (ok, .inl (cK, 600, .inl km.1))]) (va_A [(om, .inr (3, [.int th, .int st, .int lo, .ref ob, .int bm.2.1, .int bm.2.2.1, .int bm.2.2.2.1, .int bm.2.2.2.2, .ref ok, .int km.2, .int qm.1, .int qm.2.1, .int qm.2.2.1, .int qm.2.2.2, .int bd, .int ym.1, .int ym.2.1, .int ym.2.2.1, .int ym.2.2.2])), (ob, .inl (cZ, 5200, .inl bm.1)), (ok, .inl (cK, 600, .inl km.1))] sz)) 0 0 (va_A [(om, .inr (3, [.int th, .int st, .int lo, .ref ob, .int bm.2.1, .int bm.2.2.1, .int bm.2.2.2.1, .int bm.2.2.2.2, .ref ok, .int km.2, .int qm.1, .int qm.2.1, .int qm.2.2.1, .int qm.2.2.2, .int bd, .int ym.1, .int ym.2.1, .int ym.2.2.1, .int ym.2.2.2])), (ob, .inl (cZ, 5200, .inl bm.1)), (ok, .inl (cK, 600, .inl km.1))] sz) := by
  refine Met.ofW (cc := cX3_get) (maxL := 6) (ret := (some .long)) (by decide) rfl ?_
  intro p e s m args below meth c s₁ B hml hv
  obtain ⟨rfl, hsz, hP, hK, hD0, hZ⟩ := hv
  have hx := B.exec
  have hb := B.bytes
  have hr := B.returns
  have hts : ∀ w ∈ G, w.before [.ref om, .int p0].toArray s = true := fun w h => atoms_spec (ws := (Cond.code yX3_get cX3_get 6 (some .long) :: G)) B.pre w (List.mem_cons_of_mem _ h)
  have hown : s.vm.findClass RX3 = some m.cls := findClass_of_methodNamed B.named
  have hlocks := B.notSynchronized
  subst hsz
  have hD := hD0.self (sz := s.heap.size)
  generalize hAe : va_A [(om, .inr (3, [.int th, .int st, .int lo, .ref ob, .int bm.2.1, .int bm.2.2.1, .int bm.2.2.2.1, .int bm.2.2.2.2, .ref ok, .int km.2, .int qm.1, .int qm.2.1, .int qm.2.2.1, .int qm.2.2.2, .int bd, .int ym.1, .int ym.2.1, .int ym.2.2.1, .int ym.2.2.2])), (ob, .inl (cZ, 5200, .inl bm.1)), (ok, .inl (cK, 600, .inl km.1))] s.heap.size = A at hD ⊢
  have hA : ∀ q : Nat, s.heap.size ≤ q → A q := fun q h => by rw [← hAe]; exact Or.inr h
  have hS : va_S A s.heap s.heap [] := va_S.rf
  have hP : va_P (dC, dI) vwCl [(om, .inr (3, [.int th, .int st, .int lo, .ref ob, .int bm.2.1, .int bm.2.2.1, .int bm.2.2.2.1, .int bm.2.2.2.2, .ref ok, .int km.2, .int qm.1, .int qm.2.1, .int qm.2.2.1, .int qm.2.2.2, .int bd, .int ym.1, .int ym.2.1, .int ym.2.2.1, .int ym.2.2.2])), (ob, .inl (cZ, 5200, .inl bm.1)), (ok, .inl (cK, 600, .inl km.1))] s.heap := hP
  have hl := lv_entry ([.ref om, .int p0]) (n := 6) (Nat.le_of_ble_eq_true rfl)
  rw [lg_entry_eq]
  generalize (lg_sl ([.ref om, .int p0]) ++ List.replicate (6 - (lg_sl ([.ref om, .int p0])).length) Slot.unset).toArray = ls at hl ⊢
  have hl : lv_has ls 6 [(0, .ref om), (1, .int p0)] := hl
  refine lv_aload_n hx hb dX3_get_0 rfl (lv_at hl 0 rfl) ?_
  refine lv_iload_n hx hb dX3_get_1 rfl (lv_at hl 1 rfl) ?_
  refine lv_i2l (v := p0.toInt64) hx hb dX3_get_2 rfl ?_
  refine lv_lconst (v := 1) hx hb dX3_get_3 (by decide) ?_
  refine lv_ldc2 (v := 32) hx hb hown (hts _ wd504) dX3_get_4 ?_
  refine vp_callSi (va_Run.run (va_runS (As := [.long p0.toInt64, .long 1, .long 32]) (rest := [.ref om]) ⟨hx, hb, hml, hown, hts⟩ (mX3_isIn l dC dI p0.toInt64 1 32) (va_cwS 3 hts (gS wd505 wd506 wd30 wd507) rfl rfl rfl (by decide +kernel) ⟨Nat.le_of_ble_eq_true rfl, Nat.le_of_ble_eq_true rfl⟩) ⟨fb_nw, pre_nw hZ⟩ rfl rfl hl.1 rfl (lv_room (Nat.le_of_ble_eq_true rfl)) dX3_get_7 ⟨Nat.le_of_ble_eq_true rfl, Nat.le_of_ble_eq_true rfl⟩)) (fun r_1 hw_2 => ?_)
  refine lv_if_ne (tgt := 17) hx hb dX3_get_10 (by decide) (fun c_10 => ?_) (fun c_10 => ?_)
  · refine lv_iconst (v := 0) hx hb dX3_get_17 (by decide) ?_
    exact kX3_get_18 hx hb hr hml hown hts hlocks hA hZ hK  th bm km qm bd ym p0 0 hq (plX3_get_0 st lo th bm km qm bd ym p0 _ hw_2 c_10) _ _ (hP.sub (ws' := [(om, .inr (3, [.int th, .int st, .int lo, .ref ob, .int bm.2.1, .int bm.2.2.1, .int bm.2.2.2.1, .int bm.2.2.2.2, .ref ok, .int km.2, .int qm.1, .int qm.2.1, .int qm.2.2.1, .int qm.2.2.2, .int bd, .int ym.1, .int ym.2.1, .int ym.2.2.1, .int ym.2.2.2])), (ob, .inl (cZ, 5200, .inl bm.1)), (ok, .inl (cK, 600, .inl km.1))]) [0, 1, 2] rfl) (hD.sub (ws' := [(om, .inr (3, [.int th, .int st, .int lo, .ref ob, .int bm.2.1, .int bm.2.2.1, .int bm.2.2.2.1, .int bm.2.2.2.2, .ref ok, .int km.2, .int qm.1, .int qm.2.1, .int qm.2.2.1, .int qm.2.2.2, .int bd, .int ym.1, .int ym.2.1, .int ym.2.2.1, .int ym.2.2.2])), (ob, .inl (cZ, 5200, .inl bm.1)), (ok, .inl (cK, 600, .inl km.1))]) [0, 1, 2] (by decide) rfl) hS ls (lv_sub hl [0, 1] rfl)
  · refine lv_iconst (v := 1) hx hb dX3_get_13 (by decide) ?_
    refine lv_goto (tgt := 18) hx hb dX3_get_14 (by decide) ?_
    exact kX3_get_18 hx hb hr hml hown hts hlocks hA hZ hK  th bm km qm bd ym p0 1 hq (plX3_get_1 st lo th bm km qm bd ym p0 _ hw_2 c_10) _ _ (hP.sub (ws' := [(om, .inr (3, [.int th, .int st, .int lo, .ref ob, .int bm.2.1, .int bm.2.2.1, .int bm.2.2.2.1, .int bm.2.2.2.2, .ref ok, .int km.2, .int qm.1, .int qm.2.1, .int qm.2.2.1, .int qm.2.2.2, .int bd, .int ym.1, .int ym.2.1, .int ym.2.2.1, .int ym.2.2.2])), (ob, .inl (cZ, 5200, .inl bm.1)), (ok, .inl (cK, 600, .inl km.1))]) [0, 1, 2] rfl) (hD.sub (ws' := [(om, .inr (3, [.int th, .int st, .int lo, .ref ob, .int bm.2.1, .int bm.2.2.1, .int bm.2.2.2.1, .int bm.2.2.2.2, .ref ok, .int km.2, .int qm.1, .int qm.2.1, .int qm.2.2.1, .int qm.2.2.2, .int bd, .int ym.1, .int ym.2.1, .int ym.2.2.1, .int ym.2.2.2])), (ob, .inl (cZ, 5200, .inl bm.1)), (ok, .inl (cK, 600, .inl km.1))]) [0, 1, 2] (by decide) rfl) hS ls (lv_sub hl [0, 1] rfl)
theorem tk_m {km : Rw} {qm : Tk} (hq : yOk km qm) : mOk km.2 (qm.1 / 8) := by
  obtain ⟨⟨h1, h2, h3, h4⟩, -⟩ := hq
  have e := div8 h1
  exact ⟨by omega, by omega, h4⟩
theorem mk_lt {st lo th : Int32} {bm : Bm} {km : Rw} {qm : Tk} {bd : Int32} {ym : Tk} {b : Int32} (h : ¬ FX3_isMark st lo th bm km qm bd ym b = 0) : ¬ km.2 ≤ b + 1 := by
  intro c
  apply h
  unfold FX3_isMark
  rw [if_pos c]
theorem tk_in {st lo th : Int32} {bm : Bm} {km : Rw} {qm : Tk} {bd : Int32} {ym : Tk} {r : Int32} (hq : yOk km qm) (e : r = FX3_isMark st lo th bm km qm bd ym (qm.1 / 8)) (h : ¬ r = 0) : vp_in ((qm.1 / 8) + 1) 600 := mk_in2 (tk_m hq) (mk_lt (e ▸ h))
theorem fi_m {km : Rw} {b : Int32} (hC : cOk km) (h : 0 ≤ b.toInt) (c : ¬ km.2 ≤ b) : mOk km.2 b := by
  have h1 := hC.1; have h2 := hC.2
  rw [leI] at c
  exact ⟨h, by omega, h2⟩
theorem fi_of {km : Rw} {p0 r : Int32} (e : r = FX3_isIn p0.toInt64 0 km.2.toInt64) (h : ¬ r = 0) : 0 ≤ p0.toInt := by
  rw [e, isIn_iff, i2lI] at h
  have z : (0 : Int64).toInt = 0 := rfl
  omega
theorem fi_back {b b' c : Int32} (h : 0 ≤ b.toInt) (hc : ¬ c ≤ b) (e : b' = b + 1) : 0 ≤ b'.toInt := by
  have e1 : b'.toInt = b.toInt + 1 := by rw [e]; exact i1 (nle_lt hc)
  omega
def suOk (p0 p3 i : Int32) : Prop := 0 ≤ i.toInt ∧ (p0 = 0 → p3.toInt ≤ 620) ∧ (¬ p0 = 0 → p3.toInt ≤ 600)
theorem su_in {p0 p3 i : Int32} (h : suOk p0 p3 i) (c : ¬ p0 = 0) (d : ¬ p3 ≤ i) : vp_in i 600 := by
  rw [leI] at d
  have := h.2.2 c
  exact inI h.1 (by omega)
theorem su_b {bm : Bm} {p0 p3 i : Int32} (hW : wok bm 400) (h : suOk p0 p3 i) (c : p0 = 0) (d : ¬ p3 ≤ i) : bOk bm.2.1 i := by
  rw [leI] at d
  have q := h.2.1 c; have h2 := hW.2
  exact ⟨h.1, by omega, by omega⟩
theorem su_back {p0 p3 i i' : Int32} (h : suOk p0 p3 i) (c : ¬ p3 ≤ i) (e : i' = i + 1) : suOk p0 p3 i' := ⟨fi_back h.1 c e, h.2⟩
theorem su_of1 {km : Rw} {p0 p2 p3 : Int32} (hC : cOk km) (c0 : ¬ p0 = 0) (c1 : ¬ p2 < 0) (c2 : p3 ≤ km.2) : suOk p0 p3 p2 := by
  rw [ltI, i0] at c1
  rw [leI] at c2
  have h2 := hC.2
  exact ⟨by omega, fun q => absurd q c0, fun _ => by omega⟩
theorem su_of2 {st lo th : Int32} {bm : Bm} {km : Rw} {qm : Tk} {bd : Int32} {ym : Tk} {p0 p2 p3 r : Int32} (hW : wok bm 400) (c0 : p0 = 0) (e : r = FX3_bytesWritten st lo th bm km qm bd ym) (c1 : ¬ p2 < 0) (c2 : p3 ≤ r) : suOk p0 p3 p2 := by
  rw [ltI, i0] at c1
  rw [leI] at c2
  have h1 := hW.1; have h2 := hW.2
  have e1 : (bm.2.1 + 7).toInt = bm.2.1.toInt + 7 := addI (by rw [show (7 : Int32).toInt = 7 from rfl]) (by omega) (by omega)
  have e2 : r.toInt = (bm.2.1.toInt + 7) / 8 := by rw [e, ← e1]; exact div8 (by omega)
  exact ⟨by omega, fun _ => by omega, fun q => absurd c0 q⟩
def FX3_take (st : Int32) (lo : Int32) (th : Int32) (bm : Bm) (km : Rw) (qm : Tk) (bd : Int32) (ym : Tk) : Int32 × Int32 × Tk :=
  if st = 1 then
    if bd = 0 then
      if (qm.1 - qm.1 / 8 * 8) = 0 then
        let r_1 := FX3_isMark st lo 0 bm km qm bd ym (qm.1 / 8)
        if r_1 = 0 then
          ((-1), 0, qm)
        else
          let x_3 := km.1 ((qm.1 / 8) + 1).toNatClampNeg
          let f_4 := qm.1 + 16
          (x_3, 0, (f_4, qm.2.1, qm.2.2.1, 0))
      else
        ((-1), 0, qm)
    else
      ((-1), 0, qm)
  else
    ((-1), 0, qm)
set_option maxRecDepth 100000 in
theorem plX3_take_0 (st : Int32) (lo : Int32) (th : Int32) (bm : Bm) (km : Rw) (qm : Tk) (bd : Int32) (ym : Tk) (c_10 : ¬ (st = 1)) : ((-1), 0, qm) = FX3_take st lo th bm km qm bd ym := by
  exact (if_neg c_10).symm
set_option maxRecDepth 100000 in
theorem plX3_take_1 (st : Int32) (lo : Int32) (th : Int32) (bm : Bm) (km : Rw) (qm : Tk) (bd : Int32) (ym : Tk) (c_10 : st = 1) (c_17 : ¬ (bd = 0)) : ((-1), 0, qm) = FX3_take st lo th bm km qm bd ym := by
  exact ((if_pos c_10).trans (if_neg c_17)).symm
set_option maxRecDepth 100000 in
theorem plX3_take_2 (st : Int32) (lo : Int32) (th : Int32) (bm : Bm) (km : Rw) (qm : Tk) (bd : Int32) (ym : Tk) (c_10 : st = 1) (c_17 : bd = 0) (c_27 : ¬ ((qm.1 - qm.1 / 8 * 8) = 0)) : ((-1), 0, qm) = FX3_take st lo th bm km qm bd ym := by
  exact (((if_pos c_10).trans (if_pos c_17)).trans (if_neg c_27)).symm
set_option maxRecDepth 100000 in
theorem plX3_take_3 (st : Int32) (lo : Int32) (th : Int32) (bm : Bm) (km : Rw) (qm : Tk) (bd : Int32) (ym : Tk) (c_10 : st = 1) (c_17 : bd = 0) (c_27 : (qm.1 - qm.1 / 8 * 8) = 0) (r_1 : Int32) (hw_2 : r_1 = FX3_isMark st lo 0 bm km qm bd ym (qm.1 / 8)) (c_41 : ¬ (r_1 = 0)) (x_3 : Int32) (ex_3 : x_3 = km.1 ((qm.1 / 8) + 1).toNatClampNeg) (f_4 : Int32) (ef_4 : f_4 = qm.1 + 16) : (x_3, 0, (f_4, qm.2.1, qm.2.2.1, 0)) = FX3_take st lo th bm km qm bd ym := by
  subst hw_2
  subst ex_3
  subst ef_4
  exact ((((if_pos c_10).trans (if_pos c_17)).trans (if_pos c_27)).trans (if_neg c_41)).symm
set_option maxRecDepth 100000 in
theorem plX3_take_4 (st : Int32) (lo : Int32) (th : Int32) (bm : Bm) (km : Rw) (qm : Tk) (bd : Int32) (ym : Tk) (c_10 : st = 1) (c_17 : bd = 0) (c_27 : (qm.1 - qm.1 / 8 * 8) = 0) (r_1 : Int32) (hw_2 : r_1 = FX3_isMark st lo 0 bm km qm bd ym (qm.1 / 8)) (c_41 : r_1 = 0) : ((-1), 0, qm) = FX3_take st lo th bm km qm bd ym := by
  subst hw_2
  exact ((((if_pos c_10).trans (if_pos c_17)).trans (if_pos c_27)).trans (if_pos c_41)).symm
set_option maxHeartbeats 4000000 in
set_option maxRecDepth 100000 in
theorem mX3_take (l : Launch) (dC : Nat → ClassId) (dI : Nat → Nat → Nat) (cZ cK : ClassId) (om ob ok : Nat) (sz : Nat) (st : Int32) (lo : Int32) (th : Int32) (bm : Bm) (km : Rw) (qm : Tk) (bd : Int32) (ym : Tk) (hq : yOk km qm) : Met l yX3_take (Cond.code yX3_take cX3_take 2 (some .int) :: G) ({ frames := 1, cells := 0, slots := 0, locals := 21 } : Room) (va_Pc [.ref om] (fun U => U.heap.size = sz ∧ va_P (dC, dI) vwCl [(om, .inr (3, [.int th, .int st, .int lo, .ref ob, .int bm.2.1, .int bm.2.2.1, .int bm.2.2.2.1, .int bm.2.2.2.2, .ref ok, .int km.2, .int qm.1, .int qm.2.1, .int qm.2.2.1, .int qm.2.2.2, .int bd, .int ym.1, .int ym.2.1, .int ym.2.2.1, .int ym.2.2.2])), (ob, .inl (cZ, 5200, .inl bm.1)), (ok, .inl (cK, 600, .inl km.1))] U.heap ∧ va_K (dC, dI) vwCl [(cZ, .boolean), (cK, .int)] U ∧ va_D (fun _ => True) [(om, .inr (3, [.int th, .int st, .int lo, .ref ob, .int bm.2.1, .int bm.2.2.1, .int bm.2.2.2.1, .int bm.2.2.2.2, .ref ok, .int km.2, .int qm.1, .int qm.2.1, .int qm.2.2.1, .int qm.2.2.2, .int bd, .int ym.1, .int ym.2.1, .int ym.2.2.1, .int ym.2.2.2])), (ob, .inl (cZ, 5200, .inl bm.1)), (ok, .inl (cK, 600, .inl km.1))] ∧ zOk U)) (va_Qi (fun (r : Int32) (u : Int32 × Tk) => (r, u) = (FX3_take st lo th bm km qm bd ym)) (fun (u : Int32 × Tk) (t : State) => va_P (dC, dI) vwCl [(om, .inr (3, [.int u.1, .int st, .int lo, .ref ob, .int bm.2.1, .int bm.2.2.1, .int bm.2.2.2.1, .int bm.2.2.2.2, .ref ok, .int km.2, .int u.2.1, .int u.2.2.1, .int u.2.2.2.1, .int u.2.2.2.2, .int bd, .int ym.1, .int ym.2.1, .int ym.2.2.1, .int ym.2.2.2])), (ob, .inl (cZ, 5200, .inl bm.1)), (ok, .inl (cK, 600, .inl km.1))] t.heap ∧ va_D (va_A [(om, .inr (3, [.int th, .int st, .int lo, .ref ob, .int bm.2.1, .int bm.2.2.1, .int bm.2.2.2.1, .int bm.2.2.2.2, .ref ok, .int km.2, .int qm.1, .int qm.2.1, .int qm.2.2.1, .int qm.2.2.2, .int bd, .int ym.1, .int ym.2.1, .int ym.2.2.1, .int ym.2.2.2])), (ob, .inl (cZ, 5200, .inl bm.1)), (ok, .inl (cK, 600, .inl km.1))] sz) [(om, .inr (3, [.int u.1, .int st, .int lo, .ref ob, .int bm.2.1, .int bm.2.2.1, .int bm.2.2.2.1, .int bm.2.2.2.2, .ref ok, .int km.2, .int u.2.1, .int u.2.2.1, .int u.2.2.2.1, .int u.2.2.2.2, .int bd, .int ym.1, .int ym.2.1, .int ym.2.2.1, .int ym.2.2.2])), (ob, .inl (cZ, 5200, .inl bm.1)), (ok, .inl (cK, 600, .inl km.1))]) (va_A [(om, .inr (3, [.int th, .int st, .int lo, .ref ob, .int bm.2.1, .int bm.2.2.1, .int bm.2.2.2.1, .int bm.2.2.2.2, .ref ok, .int km.2, .int qm.1, .int qm.2.1, .int qm.2.2.1, .int qm.2.2.2, .int bd, .int ym.1, .int ym.2.1, .int ym.2.2.1, .int ym.2.2.2])), (ob, .inl (cZ, 5200, .inl bm.1)), (ok, .inl (cK, 600, .inl km.1))] sz)) 0 0 (va_A [(om, .inr (3, [.int th, .int st, .int lo, .ref ob, .int bm.2.1, .int bm.2.2.1, .int bm.2.2.2.1, .int bm.2.2.2.2, .ref ok, .int km.2, .int qm.1, .int qm.2.1, .int qm.2.2.1, .int qm.2.2.2, .int bd, .int ym.1, .int ym.2.1, .int ym.2.2.1, .int ym.2.2.2])), (ob, .inl (cZ, 5200, .inl bm.1)), (ok, .inl (cK, 600, .inl km.1))] sz) := by
  refine Met.ofW (cc := cX3_take) (maxL := 2) (ret := (some .int)) (by decide) rfl ?_
  intro p e s m args below meth c s₁ B hml hv
  obtain ⟨rfl, hsz, hP, hK, hD0, hZ⟩ := hv
  have hx := B.exec
  have hb := B.bytes
  have hr := B.returns
  have hts : ∀ w ∈ G, w.before [.ref om].toArray s = true := fun w h => atoms_spec (ws := (Cond.code yX3_take cX3_take 2 (some .int) :: G)) B.pre w (List.mem_cons_of_mem _ h)
  have hown : s.vm.findClass RX3 = some m.cls := findClass_of_methodNamed B.named
  have hlocks := B.notSynchronized
  subst hsz
  have hD := hD0.self (sz := s.heap.size)
  generalize hAe : va_A [(om, .inr (3, [.int th, .int st, .int lo, .ref ob, .int bm.2.1, .int bm.2.2.1, .int bm.2.2.2.1, .int bm.2.2.2.2, .ref ok, .int km.2, .int qm.1, .int qm.2.1, .int qm.2.2.1, .int qm.2.2.2, .int bd, .int ym.1, .int ym.2.1, .int ym.2.2.1, .int ym.2.2.2])), (ob, .inl (cZ, 5200, .inl bm.1)), (ok, .inl (cK, 600, .inl km.1))] s.heap.size = A at hD ⊢
  have hA : ∀ q : Nat, s.heap.size ≤ q → A q := fun q h => by rw [← hAe]; exact Or.inr h
  have hS : va_S A s.heap s.heap [] := va_S.rf
  have hP : va_P (dC, dI) vwCl [(om, .inr (3, [.int th, .int st, .int lo, .ref ob, .int bm.2.1, .int bm.2.2.1, .int bm.2.2.2.1, .int bm.2.2.2.2, .ref ok, .int km.2, .int qm.1, .int qm.2.1, .int qm.2.2.1, .int qm.2.2.2, .int bd, .int ym.1, .int ym.2.1, .int ym.2.2.1, .int ym.2.2.2])), (ob, .inl (cZ, 5200, .inl bm.1)), (ok, .inl (cK, 600, .inl km.1))] s.heap := hP
  have hl := lv_entry ([.ref om]) (n := 2) (Nat.le_of_ble_eq_true rfl)
  rw [lg_entry_eq]
  generalize (lg_sl ([.ref om]) ++ List.replicate (2 - (lg_sl ([.ref om])).length) Slot.unset).toArray = ls at hl ⊢
  have hl : lv_has ls 2 [(0, .ref om)] := hl
  refine lv_aload_n hx hb dX3_take_0 rfl (lv_at hl 0 rfl) ?_
  refine lv_iconst (v := 0) hx hb dX3_take_1 (by decide) ?_
  refine va_put (D := (dC, dI)) (ci := 3) (v := .int 0) (ty := .int) (C := RX3) (T := TX3) (N := 19) hx hb hts inGX3 tyX3 tyX3_ok nmX3 hown hK hP hD hS 0 rfl rfl 0 (by decide) (hts _ wd437) (fun _ h9 => h9) rfl (by decide +kernel) rfl rfl (Nat.le_of_ble_eq_true rfl) dX3_take_2 (fun H locs hP hD hS => ?_)
  have hP : va_P (dC, dI) vwCl [(om, .inr (3, [.int 0, .int st, .int lo, .ref ob, .int bm.2.1, .int bm.2.2.1, .int bm.2.2.2.1, .int bm.2.2.2.2, .ref ok, .int km.2, .int qm.1, .int qm.2.1, .int qm.2.2.1, .int qm.2.2.2, .int bd, .int ym.1, .int ym.2.1, .int ym.2.2.1, .int ym.2.2.2])), (ob, .inl (cZ, 5200, .inl bm.1)), (ok, .inl (cK, 600, .inl km.1))] H := hP
  have hD : va_D A [(om, .inr (3, [.int 0, .int st, .int lo, .ref ob, .int bm.2.1, .int bm.2.2.1, .int bm.2.2.2.1, .int bm.2.2.2.2, .ref ok, .int km.2, .int qm.1, .int qm.2.1, .int qm.2.2.1, .int qm.2.2.2, .int bd, .int ym.1, .int ym.2.1, .int ym.2.2.1, .int ym.2.2.2])), (ob, .inl (cZ, 5200, .inl bm.1)), (ok, .inl (cK, 600, .inl km.1))] := hD
  refine lv_aload_n hx hb dX3_take_5 rfl (lv_at hl 0 rfl) ?_
  refine va_get (D := (dC, dI)) (ci := 3) (v := .int st) (C := RX3) (T := TX3) (N := 19) hx hb hts inGX3 hown hK hP 0 rfl rfl 1 (by decide) (hts _ wd438) (fun _ h9 => h9) rfl dX3_take_6 ?_
  refine lv_iconst (v := 1) hx hb dX3_take_9 (by decide) ?_
  refine lv_icmp_ne (tgt := 44) hx hb dX3_take_10 (by decide) (fun c_10 => ?_) (fun c_10 => ?_)
  · refine lv_iconst (v := (-1)) hx hb dX3_take_44 (by decide) ?_
    have hP9 := hP.sub (ws' := [(om, .inr (3, [.int 0, .int st, .int lo, .ref ob, .int bm.2.1, .int bm.2.2.1, .int bm.2.2.2.1, .int bm.2.2.2.2, .ref ok, .int km.2, .int qm.1, .int qm.2.1, .int qm.2.2.1, .int qm.2.2.2, .int bd, .int ym.1, .int ym.2.1, .int ym.2.2.1, .int ym.2.2.2])), (ob, .inl (cZ, 5200, .inl bm.1)), (ok, .inl (cK, 600, .inl km.1))]) [0, 1, 2] rfl
    have hD9 := hD.sub (ws' := [(om, .inr (3, [.int 0, .int st, .int lo, .ref ob, .int bm.2.1, .int bm.2.2.1, .int bm.2.2.2.1, .int bm.2.2.2.2, .ref ok, .int km.2, .int qm.1, .int qm.2.1, .int qm.2.2.1, .int qm.2.2.2, .int bd, .int ym.1, .int ym.2.1, .int ym.2.2.1, .int ym.2.2.2])), (ob, .inl (cZ, 5200, .inl bm.1)), (ok, .inl (cK, 600, .inl km.1))]) [0, 1, 2] (by decide) rfl
    exact W.iret (v := (-1)) hx hb hr (fun t ht hW => ⟨⟨(-1), (0, qm), rfl, (plX3_take_0 st lo th bm km qm bd ym c_10), by rw [ht]; exact hP9, hD9⟩, hS.F ht⟩) hS.2.2 dX3_take_45
  · refine lv_aload_n hx hb dX3_take_13 rfl (lv_at hl 0 rfl) ?_
    refine va_get (D := (dC, dI)) (ci := 3) (v := .int bd) (C := RX3) (T := TX3) (N := 19) hx hb hts inGX3 hown hK hP 0 rfl rfl 14 (by decide) (hts _ wd451) (fun _ h9 => h9) rfl dX3_take_14 ?_
    refine lv_if_ne (tgt := 44) hx hb dX3_take_17 (by decide) (fun c_17 => ?_) (fun c_17 => ?_)
    · refine lv_iconst (v := (-1)) hx hb dX3_take_44 (by decide) ?_
      have hP9 := hP.sub (ws' := [(om, .inr (3, [.int 0, .int st, .int lo, .ref ob, .int bm.2.1, .int bm.2.2.1, .int bm.2.2.2.1, .int bm.2.2.2.2, .ref ok, .int km.2, .int qm.1, .int qm.2.1, .int qm.2.2.1, .int qm.2.2.2, .int bd, .int ym.1, .int ym.2.1, .int ym.2.2.1, .int ym.2.2.2])), (ob, .inl (cZ, 5200, .inl bm.1)), (ok, .inl (cK, 600, .inl km.1))]) [0, 1, 2] rfl
      have hD9 := hD.sub (ws' := [(om, .inr (3, [.int 0, .int st, .int lo, .ref ob, .int bm.2.1, .int bm.2.2.1, .int bm.2.2.2.1, .int bm.2.2.2.2, .ref ok, .int km.2, .int qm.1, .int qm.2.1, .int qm.2.2.1, .int qm.2.2.2, .int bd, .int ym.1, .int ym.2.1, .int ym.2.2.1, .int ym.2.2.2])), (ob, .inl (cZ, 5200, .inl bm.1)), (ok, .inl (cK, 600, .inl km.1))]) [0, 1, 2] (by decide) rfl
      exact W.iret (v := (-1)) hx hb hr (fun t ht hW => ⟨⟨(-1), (0, qm), rfl, (plX3_take_1 st lo th bm km qm bd ym c_10 c_17), by rw [ht]; exact hP9, hD9⟩, hS.F ht⟩) hS.2.2 dX3_take_45
    · refine lv_aload_n hx hb dX3_take_20 rfl (lv_at hl 0 rfl) ?_
      refine va_get (D := (dC, dI)) (ci := 3) (v := .int qm.1) (C := RX3) (T := TX3) (N := 19) hx hb hts inGX3 hown hK hP 0 rfl rfl 10 (by decide) (hts _ wd447) (fun _ h9 => h9) rfl dX3_take_21 ?_
      refine lv_bipush (v := 8) hx hb dX3_take_24 (by decide) ?_
      refine lv_irem hx hb dX3_take_26 (by decide) ?_
      refine lv_if_ne (tgt := 44) hx hb dX3_take_27 (by decide) (fun c_27 => ?_) (fun c_27 => ?_)
      · refine lv_iconst (v := (-1)) hx hb dX3_take_44 (by decide) ?_
        have hP9 := hP.sub (ws' := [(om, .inr (3, [.int 0, .int st, .int lo, .ref ob, .int bm.2.1, .int bm.2.2.1, .int bm.2.2.2.1, .int bm.2.2.2.2, .ref ok, .int km.2, .int qm.1, .int qm.2.1, .int qm.2.2.1, .int qm.2.2.2, .int bd, .int ym.1, .int ym.2.1, .int ym.2.2.1, .int ym.2.2.2])), (ob, .inl (cZ, 5200, .inl bm.1)), (ok, .inl (cK, 600, .inl km.1))]) [0, 1, 2] rfl
        have hD9 := hD.sub (ws' := [(om, .inr (3, [.int 0, .int st, .int lo, .ref ob, .int bm.2.1, .int bm.2.2.1, .int bm.2.2.2.1, .int bm.2.2.2.2, .ref ok, .int km.2, .int qm.1, .int qm.2.1, .int qm.2.2.1, .int qm.2.2.2, .int bd, .int ym.1, .int ym.2.1, .int ym.2.2.1, .int ym.2.2.2])), (ob, .inl (cZ, 5200, .inl bm.1)), (ok, .inl (cK, 600, .inl km.1))]) [0, 1, 2] (by decide) rfl
        exact W.iret (v := (-1)) hx hb hr (fun t ht hW => ⟨⟨(-1), (0, qm), rfl, (plX3_take_2 st lo th bm km qm bd ym c_10 c_17 c_27), by rw [ht]; exact hP9, hD9⟩, hS.F ht⟩) hS.2.2 dX3_take_45
      · refine lv_aload_n hx hb dX3_take_30 rfl (lv_at hl 0 rfl) ?_
        refine lv_aload_n hx hb dX3_take_31 rfl (lv_at hl 0 rfl) ?_
        refine va_get (D := (dC, dI)) (ci := 3) (v := .int qm.1) (C := RX3) (T := TX3) (N := 19) hx hb hts inGX3 hown hK hP 0 rfl rfl 10 (by decide) (hts _ wd447) (fun _ h9 => h9) rfl dX3_take_32 ?_
        refine lv_bipush (v := 8) hx hb dX3_take_35 (by decide) ?_
        refine lv_idiv hx hb dX3_take_37 (by decide) ?_
        have hPc := hP.sub (ws' := [(om, .inr (3, [.int 0, .int st, .int lo, .ref ob, .int bm.2.1, .int bm.2.2.1, .int bm.2.2.2.1, .int bm.2.2.2.2, .ref ok, .int km.2, .int qm.1, .int qm.2.1, .int qm.2.2.1, .int qm.2.2.2, .int bd, .int ym.1, .int ym.2.1, .int ym.2.2.1, .int ym.2.2.2])), (ob, .inl (cZ, 5200, .inl bm.1)), (ok, .inl (cK, 600, .inl km.1))]) [0, 1, 2] rfl
        have hKc := hK.sub (tys' := [(cZ, .boolean), (cK, .int)]) [0, 1] rfl
        refine vp_callSi (va_Run.run (va_runV (As := [.int (qm.1 / 8)]) (rest := []) ⟨hx, hb, hml, hown, hts⟩ (mX3_isMark l dC dI cZ cK om ob ok st lo 0 bm km qm bd ym (qm.1 / 8) (tk_m hq)) (cwV 1 hts (gV wd587 wd588 wd24 wd30 wd589) rfl rfl rfl (by decide +kernel) ⟨Nat.le_of_ble_eq_true rfl, Nat.le_of_ble_eq_true rfl⟩) ⟨fb_ro, va_recv hKc hPc (ci := 3) (q0 := 0) rfl rfl, pre_ro hPc hKc hZ⟩ rfl rfl hl.1 rfl (lv_room (Nat.le_of_ble_eq_true rfl)) dX3_take_38 ⟨Nat.le_of_ble_eq_true rfl, Nat.le_of_ble_eq_true rfl⟩)) (fun r_1 hw_2 => ?_)
        refine lv_if_ne (tgt := 46) hx hb dX3_take_41 (by decide) (fun c_41 => ?_) (fun c_41 => ?_)
        · refine lv_aload_n hx hb dX3_take_46 rfl (lv_at hl 0 rfl) ?_
          refine va_get (D := (dC, dI)) (ci := 3) (v := .ref ok) (C := RX3) (T := TX3) (N := 19) hx hb hts inGX3 hown hK hP 0 rfl rfl 8 (by decide) (hts _ wd445) (fun _ h9 => h9) rfl dX3_take_47 ?_
          refine lv_aload_n hx hb dX3_take_50 rfl (lv_at hl 0 rfl) ?_
          refine va_get (D := (dC, dI)) (ci := 3) (v := .int qm.1) (C := RX3) (T := TX3) (N := 19) hx hb hts inGX3 hown hK hP 0 rfl rfl 10 (by decide) (hts _ wd447) (fun _ h9 => h9) rfl dX3_take_51 ?_
          refine lv_bipush (v := 8) hx hb dX3_take_54 (by decide) ?_
          refine lv_idiv hx hb dX3_take_56 (by decide) ?_
          refine lv_iconst (v := 1) hx hb dX3_take_57 (by decide) ?_
          refine lv_iadd hx hb dX3_take_58 ?_
          refine va_iald hx hb hK hP 2 1 rfl rfl (tk_in hq (by assumption) c_41) dX3_take_59 ?_
          refine lv_topi (fun x_3 ex_3 => ?_)
          refine lv_istore_n (lv' := [(1, .int x_3), (0, .ref om)]) hx hb dX3_take_60 rfl hl (by decide) rfl (fun ls hl => ?_)
          refine lv_aload_n hx hb dX3_take_61 rfl (lv_at hl 1 rfl) ?_
          refine lv_aload_n hx hb dX3_take_62 rfl (lv_at hl 1 rfl) ?_
          refine va_get (D := (dC, dI)) (ci := 3) (v := .int qm.1) (C := RX3) (T := TX3) (N := 19) hx hb hts inGX3 hown hK hP 0 rfl rfl 10 (by decide) (hts _ wd447) (fun _ h9 => h9) rfl dX3_take_63 ?_
          refine lv_bipush (v := 16) hx hb dX3_take_66 (by decide) ?_
          refine lv_iadd hx hb dX3_take_68 ?_
          refine lv_topi (fun f_4 ef_4 => ?_)
          refine va_put (D := (dC, dI)) (ci := 3) (v := .int f_4) (ty := .int) (C := RX3) (T := TX3) (N := 19) hx hb hts inGX3 tyX3 tyX3_ok nmX3 hown hK hP hD hS 0 rfl rfl 10 (by decide) (hts _ wd447) (fun _ h9 => h9) rfl (by decide +kernel) rfl rfl (Nat.le_of_ble_eq_true rfl) dX3_take_69 (fun H locs hP hD hS => ?_)
          have hP : va_P (dC, dI) vwCl [(om, .inr (3, [.int 0, .int st, .int lo, .ref ob, .int bm.2.1, .int bm.2.2.1, .int bm.2.2.2.1, .int bm.2.2.2.2, .ref ok, .int km.2, .int f_4, .int qm.2.1, .int qm.2.2.1, .int qm.2.2.2, .int bd, .int ym.1, .int ym.2.1, .int ym.2.2.1, .int ym.2.2.2])), (ob, .inl (cZ, 5200, .inl bm.1)), (ok, .inl (cK, 600, .inl km.1))] H := hP
          have hD : va_D A [(om, .inr (3, [.int 0, .int st, .int lo, .ref ob, .int bm.2.1, .int bm.2.2.1, .int bm.2.2.2.1, .int bm.2.2.2.2, .ref ok, .int km.2, .int f_4, .int qm.2.1, .int qm.2.2.1, .int qm.2.2.2, .int bd, .int ym.1, .int ym.2.1, .int ym.2.2.1, .int ym.2.2.2])), (ob, .inl (cZ, 5200, .inl bm.1)), (ok, .inl (cK, 600, .inl km.1))] := hD
          refine lv_aload_n hx hb dX3_take_72 rfl (lv_at hl 1 rfl) ?_
          refine lv_iconst (v := 0) hx hb dX3_take_73 (by decide) ?_
          refine va_put (D := (dC, dI)) (ci := 3) (v := .int 0) (ty := .boolean) (C := RX3) (T := TX3) (N := 19) hx hb hts inGX3 tyX3 tyX3_ok nmX3 hown hK hP hD hS 0 rfl rfl 13 (by decide) (hts _ wd450) (fun _ h9 => h9) rfl (by decide +kernel) rfl rfl (Nat.le_of_ble_eq_true rfl) dX3_take_74 (fun H locs hP hD hS => ?_)
          have hP : va_P (dC, dI) vwCl [(om, .inr (3, [.int 0, .int st, .int lo, .ref ob, .int bm.2.1, .int bm.2.2.1, .int bm.2.2.2.1, .int bm.2.2.2.2, .ref ok, .int km.2, .int f_4, .int qm.2.1, .int qm.2.2.1, .int 0, .int bd, .int ym.1, .int ym.2.1, .int ym.2.2.1, .int ym.2.2.2])), (ob, .inl (cZ, 5200, .inl bm.1)), (ok, .inl (cK, 600, .inl km.1))] H := hP
          have hD : va_D A [(om, .inr (3, [.int 0, .int st, .int lo, .ref ob, .int bm.2.1, .int bm.2.2.1, .int bm.2.2.2.1, .int bm.2.2.2.2, .ref ok, .int km.2, .int f_4, .int qm.2.1, .int qm.2.2.1, .int 0, .int bd, .int ym.1, .int ym.2.1, .int ym.2.2.1, .int ym.2.2.2])), (ob, .inl (cZ, 5200, .inl bm.1)), (ok, .inl (cK, 600, .inl km.1))] := hD
          refine lv_iload_n hx hb dX3_take_77 rfl (lv_at hl 0 rfl) ?_
          have hP9 := hP.sub (ws' := [(om, .inr (3, [.int 0, .int st, .int lo, .ref ob, .int bm.2.1, .int bm.2.2.1, .int bm.2.2.2.1, .int bm.2.2.2.2, .ref ok, .int km.2, .int f_4, .int qm.2.1, .int qm.2.2.1, .int 0, .int bd, .int ym.1, .int ym.2.1, .int ym.2.2.1, .int ym.2.2.2])), (ob, .inl (cZ, 5200, .inl bm.1)), (ok, .inl (cK, 600, .inl km.1))]) [0, 1, 2] rfl
          have hD9 := hD.sub (ws' := [(om, .inr (3, [.int 0, .int st, .int lo, .ref ob, .int bm.2.1, .int bm.2.2.1, .int bm.2.2.2.1, .int bm.2.2.2.2, .ref ok, .int km.2, .int f_4, .int qm.2.1, .int qm.2.2.1, .int 0, .int bd, .int ym.1, .int ym.2.1, .int ym.2.2.1, .int ym.2.2.2])), (ob, .inl (cZ, 5200, .inl bm.1)), (ok, .inl (cK, 600, .inl km.1))]) [0, 1, 2] (by decide) rfl
          exact W.iret (v := x_3) hx hb hr (fun t ht hW => ⟨⟨x_3, (0, (f_4, qm.2.1, qm.2.2.1, 0)), rfl, (plX3_take_3 st lo th bm km qm bd ym c_10 c_17 c_27 _ hw_2 c_41 _ ex_3 _ ef_4), by rw [ht]; exact hP9, hD9⟩, hS.F ht⟩) hS.2.2 dX3_take_78
        · refine lv_iconst (v := (-1)) hx hb dX3_take_44 (by decide) ?_
          have hP9 := hP.sub (ws' := [(om, .inr (3, [.int 0, .int st, .int lo, .ref ob, .int bm.2.1, .int bm.2.2.1, .int bm.2.2.2.1, .int bm.2.2.2.2, .ref ok, .int km.2, .int qm.1, .int qm.2.1, .int qm.2.2.1, .int qm.2.2.2, .int bd, .int ym.1, .int ym.2.1, .int ym.2.2.1, .int ym.2.2.2])), (ob, .inl (cZ, 5200, .inl bm.1)), (ok, .inl (cK, 600, .inl km.1))]) [0, 1, 2] rfl
          have hD9 := hD.sub (ws' := [(om, .inr (3, [.int 0, .int st, .int lo, .ref ob, .int bm.2.1, .int bm.2.2.1, .int bm.2.2.2.1, .int bm.2.2.2.2, .ref ok, .int km.2, .int qm.1, .int qm.2.1, .int qm.2.2.1, .int qm.2.2.2, .int bd, .int ym.1, .int ym.2.1, .int ym.2.2.1, .int ym.2.2.2])), (ob, .inl (cZ, 5200, .inl bm.1)), (ok, .inl (cK, 600, .inl km.1))]) [0, 1, 2] (by decide) rfl
          exact W.iret (v := (-1)) hx hb hr (fun t ht hW => ⟨⟨(-1), (0, qm), rfl, (plX3_take_4 st lo th bm km qm bd ym c_10 c_17 c_27 _ hw_2 c_41), by rw [ht]; exact hP9, hD9⟩, hS.F ht⟩) hS.2.2 dX3_take_45
def LX3_find_25 (st : Int32) (lo : Int32) : Nat → Int32 → Bm → Rw → Tk → Int32 → Tk → Int32 → Int32 → Int32 × Int32
  | 0, th, bm, km, qm, bd, ym, p0, b => (0, th)
  | n + 1, th, bm, km, qm, bd, ym, p0, b =>
    if th = 0 then
      if km.2 ≤ b then
        if th ≤ 0 then
          ((-1), th)
        else
          (0, th)
      else
        let r_1 := FX3_isMark st lo th bm km qm bd ym b
        if r_1 = 0 then
          let i_3 := b + 1
          LX3_find_25 st lo n th bm km qm bd ym p0 i_3
        else
          (b, th)
    else
      if th ≤ 0 then
        ((-1), th)
      else
        (0, th)
def LX3_find_20 (st : Int32) (lo : Int32) (th : Int32) (bm : Bm) (km : Rw) (qm : Tk) (bd : Int32) (ym : Tk) (p0 : Int32) (v : Int32) : Int32 × Int32 :=
  LX3_find_25 st lo (fz p0 km.2) v bm km qm bd ym p0 p0
def FX3_find (st : Int32) (lo : Int32) (th : Int32) (bm : Bm) (km : Rw) (qm : Tk) (bd : Int32) (ym : Tk) (p0 : Int32) : Int32 × Int32 :=
  let r_1 := FX3_isIn p0.toInt64 0 km.2.toInt64
  if r_1 = 0 then
    LX3_find_20 st lo th bm km qm bd ym p0 1
  else
    LX3_find_20 st lo th bm km qm bd ym p0 0
set_option maxRecDepth 100000 in
theorem plX3_find_l25_0 (st : Int32) (lo : Int32) (n : Nat) (th : Int32) (bm : Bm) (km : Rw) (qm : Tk) (bd : Int32) (ym : Tk) (p0 : Int32) (b : Int32) (c_29 : ¬ (th = 0)) (c_60 : th ≤ 0) : ((-1), th) = LX3_find_25 st lo (n + 1) th bm km qm bd ym p0 b := by
  exact ((if_neg c_29).trans (if_pos c_60)).symm
set_option maxRecDepth 100000 in
theorem plX3_find_l25_1 (st : Int32) (lo : Int32) (n : Nat) (th : Int32) (bm : Bm) (km : Rw) (qm : Tk) (bd : Int32) (ym : Tk) (p0 : Int32) (b : Int32) (c_29 : ¬ (th = 0)) (c_60 : ¬ (th ≤ 0)) : (0, th) = LX3_find_25 st lo (n + 1) th bm km qm bd ym p0 b := by
  exact ((if_neg c_29).trans (if_neg c_60)).symm
set_option maxRecDepth 100000 in
theorem plX3_find_l25_2 (st : Int32) (lo : Int32) (n : Nat) (th : Int32) (bm : Bm) (km : Rw) (qm : Tk) (bd : Int32) (ym : Tk) (p0 : Int32) (b : Int32) (c_29 : th = 0) (c_37 : km.2 ≤ b) (c_60 : th ≤ 0) : ((-1), th) = LX3_find_25 st lo (n + 1) th bm km qm bd ym p0 b := by
  exact (((if_pos c_29).trans (if_pos c_37)).trans (if_pos c_60)).symm
set_option maxRecDepth 100000 in
theorem plX3_find_l25_3 (st : Int32) (lo : Int32) (n : Nat) (th : Int32) (bm : Bm) (km : Rw) (qm : Tk) (bd : Int32) (ym : Tk) (p0 : Int32) (b : Int32) (c_29 : th = 0) (c_37 : km.2 ≤ b) (c_60 : ¬ (th ≤ 0)) : (0, th) = LX3_find_25 st lo (n + 1) th bm km qm bd ym p0 b := by
  exact (((if_pos c_29).trans (if_pos c_37)).trans (if_neg c_60)).symm
set_option maxRecDepth 100000 in
theorem plX3_find_l25_4 (st : Int32) (lo : Int32) (n : Nat) (th : Int32) (bm : Bm) (km : Rw) (qm : Tk) (bd : Int32) (ym : Tk) (p0 : Int32) (b : Int32) (c_29 : th = 0) (c_37 : ¬ (km.2 ≤ b)) (r_1 : Int32) (hw_2 : r_1 = FX3_isMark st lo th bm km qm bd ym b) (c_45 : r_1 = 0) (i_3 : Int32) (ei_3 : i_3 = b + 1) : LX3_find_25 st lo n th bm km qm bd ym p0 i_3 = LX3_find_25 st lo (n + 1) th bm km qm bd ym p0 b := by
  subst hw_2
  subst ei_3
  exact (((if_pos c_29).trans (if_neg c_37)).trans (if_pos c_45)).symm
set_option maxRecDepth 100000 in
theorem plX3_find_l25_5 (st : Int32) (lo : Int32) (n : Nat) (th : Int32) (bm : Bm) (km : Rw) (qm : Tk) (bd : Int32) (ym : Tk) (p0 : Int32) (b : Int32) (c_29 : th = 0) (c_37 : ¬ (km.2 ≤ b)) (r_1 : Int32) (hw_2 : r_1 = FX3_isMark st lo th bm km qm bd ym b) (c_45 : ¬ (r_1 = 0)) : (b, th) = LX3_find_25 st lo (n + 1) th bm km qm bd ym p0 b := by
  subst hw_2
  exact (((if_pos c_29).trans (if_neg c_37)).trans (if_neg c_45)).symm
set_option maxRecDepth 100000 in
theorem plX3_find_l20_0 (st : Int32) (lo : Int32) (th : Int32) (bm : Bm) (km : Rw) (qm : Tk) (bd : Int32) (ym : Tk) (p0 : Int32) (v : Int32)  : LX3_find_25 st lo (fz p0 km.2) v bm km qm bd ym p0 p0 = LX3_find_20 st lo th bm km qm bd ym p0 v := by
  exact rfl
set_option maxRecDepth 100000 in
theorem plX3_find_0 (st : Int32) (lo : Int32) (th : Int32) (bm : Bm) (km : Rw) (qm : Tk) (bd : Int32) (ym : Tk) (p0 : Int32) (r_1 : Int32) (hw_2 : r_1 = FX3_isIn p0.toInt64 0 km.2.toInt64) (c_12 : r_1 = 0) : LX3_find_20 st lo th bm km qm bd ym p0 1 = FX3_find st lo th bm km qm bd ym p0 := by
  subst hw_2
  exact (if_pos c_12).symm
set_option maxRecDepth 100000 in
theorem plX3_find_1 (st : Int32) (lo : Int32) (th : Int32) (bm : Bm) (km : Rw) (qm : Tk) (bd : Int32) (ym : Tk) (p0 : Int32) (r_1 : Int32) (hw_2 : r_1 = FX3_isIn p0.toInt64 0 km.2.toInt64) (c_12 : ¬ (r_1 = 0)) : LX3_find_20 st lo th bm km qm bd ym p0 0 = FX3_find st lo th bm km qm bd ym p0 := by
  subst hw_2
  exact (if_neg c_12).symm
set_option maxHeartbeats 4000000 in
set_option maxRecDepth 100000 in
theorem kX3_find_25 {p : Program} {l : Launch} {e : Env} {s : State} {m : MethodId} {args : Array Value} {below : List Frame} {meth : Method} {c : Code} {dC : Nat → ClassId} {dI : Nat → Nat → Nat} {cZ cK : ClassId} {om ob ok : Nat} {st : Int32} {lo : Int32} {z : Int32 × Int32} {A : Nat → Prop} (hx : p.tables.exec = Jvm.exec) (hb : c.code = cX3_find) (hr : meth.sig.returnType = (some .int)) (hml : c.maxLocals = 3) (hown : s.vm.findClass RX3 = some m.cls) (hts : ∀ w ∈ G, w.before args s = true) (hlocks : meth.locks = false) (hA : ∀ q : Nat, s.heap.size ≤ q → A q) (hZ : zOk s) (hK : va_K (dC, dI) vwCl [(cZ, .boolean), (cK, .int)] s) : ∀ (n : Nat) (th : Int32) (bm : Bm) (km : Rw) (qm : Tk) (bd : Int32) (ym : Tk) (p0 : Int32) (b : Int32), (fuel n b km.2) → (cOk km) → (th = 0 → 0 ≤ b.toInt) → LX3_find_25 st lo n th bm km qm bd ym p0 b = z → ∀ (H : Heap) (locs : List Loc), va_P (dC, dI) vwCl [(om, .inr (3, [.int th, .int st, .int lo, .ref ob, .int bm.2.1, .int bm.2.2.1, .int bm.2.2.2.1, .int bm.2.2.2.2, .ref ok, .int km.2, .int qm.1, .int qm.2.1, .int qm.2.2.1, .int qm.2.2.2, .int bd, .int ym.1, .int ym.2.1, .int ym.2.2.1, .int ym.2.2.2])), (ob, .inl (cZ, 5200, .inl bm.1)), (ok, .inl (cK, 600, .inl km.1))] H → va_D A [(om, .inr (3, [.int th, .int st, .int lo, .ref ob, .int bm.2.1, .int bm.2.2.1, .int bm.2.2.2.1, .int bm.2.2.2.2, .ref ok, .int km.2, .int qm.1, .int qm.2.1, .int qm.2.2.1, .int qm.2.2.2, .int bd, .int ym.1, .int ym.2.1, .int ym.2.2.1, .int ym.2.2.2])), (ob, .inl (cZ, 5200, .inl bm.1)), (ok, .inl (cK, 600, .inl km.1))] → va_S A s.heap H locs → ∀ (ls : Array Slot), lv_has ls 3 [(0, .ref om), (1, .int p0), (2, .int b)] → W p l e (headSpec (Cond.code yX3_find cX3_find 3 (some .int) :: G) ({ frames := 1, cells := 0, slots := 0, locals := 25 } : Room)).room s m args below meth c H locs 0 0 (MQ below (va_Qi (fun (r : Int32) (u : Int32) => (r, u) = z) (fun (u : Int32) (t : State) => va_P (dC, dI) vwCl [(om, .inr (3, [.int u, .int st, .int lo, .ref ob, .int bm.2.1, .int bm.2.2.1, .int bm.2.2.2.1, .int bm.2.2.2.2, .ref ok, .int km.2, .int qm.1, .int qm.2.1, .int qm.2.2.1, .int qm.2.2.2, .int bd, .int ym.1, .int ym.2.1, .int ym.2.2.1, .int ym.2.2.2])), (ob, .inl (cZ, 5200, .inl bm.1)), (ok, .inl (cK, 600, .inl km.1))] t.heap ∧ va_D A [(om, .inr (3, [.int u, .int st, .int lo, .ref ob, .int bm.2.1, .int bm.2.2.1, .int bm.2.2.2.1, .int bm.2.2.2.2, .ref ok, .int km.2, .int qm.1, .int qm.2.1, .int qm.2.2.1, .int qm.2.2.2, .int bd, .int ym.1, .int ym.2.1, .int ym.2.2.1, .int ym.2.2.2])), (ob, .inl (cZ, 5200, .inl bm.1)), (ok, .inl (cK, 600, .inl km.1))]) A) args s 0 0 A) (F0 m 25 ls []) := by
  intro n
  induction n with
  | zero =>
    intro th bm km qm bd ym p0 b hf hC hb0 hz
    exact absurd hf.1 (Nat.lt_irrefl 0)
  | succ n ih =>
    intro th bm km qm bd ym p0 b hf hC hb0 hz H locs hP hD hS ls hl
    refine lv_aload_n hx hb dX3_find_25 rfl (lv_at hl 0 rfl) ?_
    refine va_get (D := (dC, dI)) (ci := 3) (v := .int th) (C := RX3) (T := TX3) (N := 19) hx hb hts inGX3 hown hK hP 0 rfl rfl 0 (by decide) (hts _ wd437) (fun _ h9 => h9) rfl dX3_find_26 ?_
    refine lv_if_ne (tgt := 56) hx hb dX3_find_29 (by decide) (fun c_29 => ?_) (fun c_29 => ?_)
    · refine lv_aload_n hx hb dX3_find_56 rfl (lv_at hl 0 rfl) ?_
      refine va_get (D := (dC, dI)) (ci := 3) (v := .int th) (C := RX3) (T := TX3) (N := 19) hx hb hts inGX3 hown hK hP 0 rfl rfl 0 (by decide) (hts _ wd437) (fun _ h9 => h9) rfl dX3_find_57 ?_
      refine lv_if_le (tgt := 67) hx hb dX3_find_60 (by decide) (fun c_60 => ?_) (fun c_60 => ?_)
      · refine lv_iconst (v := (-1)) hx hb dX3_find_67 (by decide) ?_
        have hP9 := hP.sub (ws' := [(om, .inr (3, [.int th, .int st, .int lo, .ref ob, .int bm.2.1, .int bm.2.2.1, .int bm.2.2.2.1, .int bm.2.2.2.2, .ref ok, .int km.2, .int qm.1, .int qm.2.1, .int qm.2.2.1, .int qm.2.2.2, .int bd, .int ym.1, .int ym.2.1, .int ym.2.2.1, .int ym.2.2.2])), (ob, .inl (cZ, 5200, .inl bm.1)), (ok, .inl (cK, 600, .inl km.1))]) [0, 1, 2] rfl
        have hD9 := hD.sub (ws' := [(om, .inr (3, [.int th, .int st, .int lo, .ref ob, .int bm.2.1, .int bm.2.2.1, .int bm.2.2.2.1, .int bm.2.2.2.2, .ref ok, .int km.2, .int qm.1, .int qm.2.1, .int qm.2.2.1, .int qm.2.2.2, .int bd, .int ym.1, .int ym.2.1, .int ym.2.2.1, .int ym.2.2.2])), (ob, .inl (cZ, 5200, .inl bm.1)), (ok, .inl (cK, 600, .inl km.1))]) [0, 1, 2] (by decide) rfl
        exact W.iret (v := (-1)) hx hb hr (fun t ht hW => ⟨⟨(-1), th, rfl, ((plX3_find_l25_0 st lo n th bm km qm bd ym p0 b c_29 c_60).trans hz), by rw [ht]; exact hP9, hD9⟩, hS.F ht⟩) hS.2.2 dX3_find_68
      · refine lv_iconst (v := 0) hx hb dX3_find_63 (by decide) ?_
        refine lv_goto (tgt := 68) hx hb dX3_find_64 (by decide) ?_
        have hP9 := hP.sub (ws' := [(om, .inr (3, [.int th, .int st, .int lo, .ref ob, .int bm.2.1, .int bm.2.2.1, .int bm.2.2.2.1, .int bm.2.2.2.2, .ref ok, .int km.2, .int qm.1, .int qm.2.1, .int qm.2.2.1, .int qm.2.2.2, .int bd, .int ym.1, .int ym.2.1, .int ym.2.2.1, .int ym.2.2.2])), (ob, .inl (cZ, 5200, .inl bm.1)), (ok, .inl (cK, 600, .inl km.1))]) [0, 1, 2] rfl
        have hD9 := hD.sub (ws' := [(om, .inr (3, [.int th, .int st, .int lo, .ref ob, .int bm.2.1, .int bm.2.2.1, .int bm.2.2.2.1, .int bm.2.2.2.2, .ref ok, .int km.2, .int qm.1, .int qm.2.1, .int qm.2.2.1, .int qm.2.2.2, .int bd, .int ym.1, .int ym.2.1, .int ym.2.2.1, .int ym.2.2.2])), (ob, .inl (cZ, 5200, .inl bm.1)), (ok, .inl (cK, 600, .inl km.1))]) [0, 1, 2] (by decide) rfl
        exact W.iret (v := 0) hx hb hr (fun t ht hW => ⟨⟨0, th, rfl, ((plX3_find_l25_1 st lo n th bm km qm bd ym p0 b c_29 c_60).trans hz), by rw [ht]; exact hP9, hD9⟩, hS.F ht⟩) hS.2.2 dX3_find_68
    · refine lv_iload_n hx hb dX3_find_32 rfl (lv_at hl 2 rfl) ?_
      refine lv_aload_n hx hb dX3_find_33 rfl (lv_at hl 0 rfl) ?_
      refine va_get (D := (dC, dI)) (ci := 3) (v := .int km.2) (C := RX3) (T := TX3) (N := 19) hx hb hts inGX3 hown hK hP 0 rfl rfl 9 (by decide) (hts _ wd446) (fun _ h9 => h9) rfl dX3_find_34 ?_
      refine lv_icmp_ge (tgt := 56) hx hb dX3_find_37 (by decide) (fun c_37 => ?_) (fun c_37 => ?_)
      · refine lv_aload_n hx hb dX3_find_56 rfl (lv_at hl 0 rfl) ?_
        refine va_get (D := (dC, dI)) (ci := 3) (v := .int th) (C := RX3) (T := TX3) (N := 19) hx hb hts inGX3 hown hK hP 0 rfl rfl 0 (by decide) (hts _ wd437) (fun _ h9 => h9) rfl dX3_find_57 ?_
        refine lv_if_le (tgt := 67) hx hb dX3_find_60 (by decide) (fun c_60 => ?_) (fun c_60 => ?_)
        · refine lv_iconst (v := (-1)) hx hb dX3_find_67 (by decide) ?_
          have hP9 := hP.sub (ws' := [(om, .inr (3, [.int th, .int st, .int lo, .ref ob, .int bm.2.1, .int bm.2.2.1, .int bm.2.2.2.1, .int bm.2.2.2.2, .ref ok, .int km.2, .int qm.1, .int qm.2.1, .int qm.2.2.1, .int qm.2.2.2, .int bd, .int ym.1, .int ym.2.1, .int ym.2.2.1, .int ym.2.2.2])), (ob, .inl (cZ, 5200, .inl bm.1)), (ok, .inl (cK, 600, .inl km.1))]) [0, 1, 2] rfl
          have hD9 := hD.sub (ws' := [(om, .inr (3, [.int th, .int st, .int lo, .ref ob, .int bm.2.1, .int bm.2.2.1, .int bm.2.2.2.1, .int bm.2.2.2.2, .ref ok, .int km.2, .int qm.1, .int qm.2.1, .int qm.2.2.1, .int qm.2.2.2, .int bd, .int ym.1, .int ym.2.1, .int ym.2.2.1, .int ym.2.2.2])), (ob, .inl (cZ, 5200, .inl bm.1)), (ok, .inl (cK, 600, .inl km.1))]) [0, 1, 2] (by decide) rfl
          exact W.iret (v := (-1)) hx hb hr (fun t ht hW => ⟨⟨(-1), th, rfl, ((plX3_find_l25_2 st lo n th bm km qm bd ym p0 b c_29 c_37 c_60).trans hz), by rw [ht]; exact hP9, hD9⟩, hS.F ht⟩) hS.2.2 dX3_find_68
        · refine lv_iconst (v := 0) hx hb dX3_find_63 (by decide) ?_
          refine lv_goto (tgt := 68) hx hb dX3_find_64 (by decide) ?_
          have hP9 := hP.sub (ws' := [(om, .inr (3, [.int th, .int st, .int lo, .ref ob, .int bm.2.1, .int bm.2.2.1, .int bm.2.2.2.1, .int bm.2.2.2.2, .ref ok, .int km.2, .int qm.1, .int qm.2.1, .int qm.2.2.1, .int qm.2.2.2, .int bd, .int ym.1, .int ym.2.1, .int ym.2.2.1, .int ym.2.2.2])), (ob, .inl (cZ, 5200, .inl bm.1)), (ok, .inl (cK, 600, .inl km.1))]) [0, 1, 2] rfl
          have hD9 := hD.sub (ws' := [(om, .inr (3, [.int th, .int st, .int lo, .ref ob, .int bm.2.1, .int bm.2.2.1, .int bm.2.2.2.1, .int bm.2.2.2.2, .ref ok, .int km.2, .int qm.1, .int qm.2.1, .int qm.2.2.1, .int qm.2.2.2, .int bd, .int ym.1, .int ym.2.1, .int ym.2.2.1, .int ym.2.2.2])), (ob, .inl (cZ, 5200, .inl bm.1)), (ok, .inl (cK, 600, .inl km.1))]) [0, 1, 2] (by decide) rfl
          exact W.iret (v := 0) hx hb hr (fun t ht hW => ⟨⟨0, th, rfl, ((plX3_find_l25_3 st lo n th bm km qm bd ym p0 b c_29 c_37 c_60).trans hz), by rw [ht]; exact hP9, hD9⟩, hS.F ht⟩) hS.2.2 dX3_find_68
      · refine lv_aload_n hx hb dX3_find_40 rfl (lv_at hl 0 rfl) ?_
        refine lv_iload_n hx hb dX3_find_41 rfl (lv_at hl 2 rfl) ?_
        have hPc := hP.sub (ws' := [(om, .inr (3, [.int th, .int st, .int lo, .ref ob, .int bm.2.1, .int bm.2.2.1, .int bm.2.2.2.1, .int bm.2.2.2.2, .ref ok, .int km.2, .int qm.1, .int qm.2.1, .int qm.2.2.1, .int qm.2.2.2, .int bd, .int ym.1, .int ym.2.1, .int ym.2.2.1, .int ym.2.2.2])), (ob, .inl (cZ, 5200, .inl bm.1)), (ok, .inl (cK, 600, .inl km.1))]) [0, 1, 2] rfl
        have hKc := hK.sub (tys' := [(cZ, .boolean), (cK, .int)]) [0, 1] rfl
        refine vp_callSi (va_Run.run (va_runV (As := [.int b]) (rest := []) ⟨hx, hb, hml, hown, hts⟩ (mX3_isMark l dC dI cZ cK om ob ok st lo th bm km qm bd ym b (fi_m hC (hb0 c_29) c_37)) (cwV 1 hts (gV wd587 wd588 wd24 wd30 wd589) rfl rfl rfl (by decide +kernel) ⟨Nat.le_of_ble_eq_true rfl, Nat.le_of_ble_eq_true rfl⟩) ⟨fb_ro, va_recv hKc hPc (ci := 3) (q0 := 0) rfl rfl, pre_ro hPc hKc hZ⟩ rfl rfl hl.1 rfl (lv_room (Nat.le_of_ble_eq_true rfl)) dX3_find_42 ⟨Nat.le_of_ble_eq_true rfl, Nat.le_of_ble_eq_true rfl⟩)) (fun r_1 hw_2 => ?_)
        refine lv_if_eq (tgt := 50) hx hb dX3_find_45 (by decide) (fun c_45 => ?_) (fun c_45 => ?_)
        · obtain ⟨i_3, ei_3⟩ : ∃ y : Int32, y = b + 1 := ⟨_, rfl⟩
          refine lv_iinc (v := i_3) (lv' := [(2, .int i_3), (0, .ref om), (1, .int p0)]) hx hb dX3_find_50 hl (k := 2) rfl (by rw [ei_3]; rfl) (by decide) rfl (fun ls hl => ?_)
          refine lv_goto (tgt := 25) hx hb dX3_find_53 (by decide) ?_
          exact ih th bm km qm bd ym p0 i_3 (fuel_step2 hf (nle_lt c_37) (by assumption)) hC (fun q => fi_back (hb0 q) c_37 (by assumption)) ((plX3_find_l25_4 st lo n th bm km qm bd ym p0 b c_29 c_37 _ hw_2 c_45 _ ei_3).trans hz) _ _ (hP.sub (ws' := [(om, .inr (3, [.int th, .int st, .int lo, .ref ob, .int bm.2.1, .int bm.2.2.1, .int bm.2.2.2.1, .int bm.2.2.2.2, .ref ok, .int km.2, .int qm.1, .int qm.2.1, .int qm.2.2.1, .int qm.2.2.2, .int bd, .int ym.1, .int ym.2.1, .int ym.2.2.1, .int ym.2.2.2])), (ob, .inl (cZ, 5200, .inl bm.1)), (ok, .inl (cK, 600, .inl km.1))]) [0, 1, 2] rfl) (hD.sub (ws' := [(om, .inr (3, [.int th, .int st, .int lo, .ref ob, .int bm.2.1, .int bm.2.2.1, .int bm.2.2.2.1, .int bm.2.2.2.2, .ref ok, .int km.2, .int qm.1, .int qm.2.1, .int qm.2.2.1, .int qm.2.2.2, .int bd, .int ym.1, .int ym.2.1, .int ym.2.2.1, .int ym.2.2.2])), (ob, .inl (cZ, 5200, .inl bm.1)), (ok, .inl (cK, 600, .inl km.1))]) [0, 1, 2] (by decide) rfl) hS ls (lv_sub hl [1, 2, 0] rfl)
        · refine lv_iload_n hx hb dX3_find_48 rfl (lv_at hl 2 rfl) ?_
          have hP9 := hP.sub (ws' := [(om, .inr (3, [.int th, .int st, .int lo, .ref ob, .int bm.2.1, .int bm.2.2.1, .int bm.2.2.2.1, .int bm.2.2.2.2, .ref ok, .int km.2, .int qm.1, .int qm.2.1, .int qm.2.2.1, .int qm.2.2.2, .int bd, .int ym.1, .int ym.2.1, .int ym.2.2.1, .int ym.2.2.2])), (ob, .inl (cZ, 5200, .inl bm.1)), (ok, .inl (cK, 600, .inl km.1))]) [0, 1, 2] rfl
          have hD9 := hD.sub (ws' := [(om, .inr (3, [.int th, .int st, .int lo, .ref ob, .int bm.2.1, .int bm.2.2.1, .int bm.2.2.2.1, .int bm.2.2.2.2, .ref ok, .int km.2, .int qm.1, .int qm.2.1, .int qm.2.2.1, .int qm.2.2.2, .int bd, .int ym.1, .int ym.2.1, .int ym.2.2.1, .int ym.2.2.2])), (ob, .inl (cZ, 5200, .inl bm.1)), (ok, .inl (cK, 600, .inl km.1))]) [0, 1, 2] (by decide) rfl
          exact W.iret (v := b) hx hb hr (fun t ht hW => ⟨⟨b, th, rfl, ((plX3_find_l25_5 st lo n th bm km qm bd ym p0 b c_29 c_37 _ hw_2 c_45).trans hz), by rw [ht]; exact hP9, hD9⟩, hS.F ht⟩) hS.2.2 dX3_find_49
set_option maxHeartbeats 4000000 in
set_option maxRecDepth 100000 in
theorem kX3_find_20 {p : Program} {l : Launch} {e : Env} {s : State} {m : MethodId} {args : Array Value} {below : List Frame} {meth : Method} {c : Code} {dC : Nat → ClassId} {dI : Nat → Nat → Nat} {cZ cK : ClassId} {om ob ok : Nat} {st : Int32} {lo : Int32} {z : Int32 × Int32} {A : Nat → Prop} (hx : p.tables.exec = Jvm.exec) (hb : c.code = cX3_find) (hr : meth.sig.returnType = (some .int)) (hml : c.maxLocals = 3) (hown : s.vm.findClass RX3 = some m.cls) (hts : ∀ w ∈ G, w.before args s = true) (hlocks : meth.locks = false) (hA : ∀ q : Nat, s.heap.size ≤ q → A q) (hZ : zOk s) (hK : va_K (dC, dI) vwCl [(cZ, .boolean), (cK, .int)] s) : ∀ (th : Int32) (bm : Bm) (km : Rw) (qm : Tk) (bd : Int32) (ym : Tk) (p0 : Int32) (v : Int32), (cOk km) → (v = 0 → 0 ≤ p0.toInt) → LX3_find_20 st lo th bm km qm bd ym p0 v = z → ∀ (H : Heap) (locs : List Loc), va_P (dC, dI) vwCl [(om, .inr (3, [.int th, .int st, .int lo, .ref ob, .int bm.2.1, .int bm.2.2.1, .int bm.2.2.2.1, .int bm.2.2.2.2, .ref ok, .int km.2, .int qm.1, .int qm.2.1, .int qm.2.2.1, .int qm.2.2.2, .int bd, .int ym.1, .int ym.2.1, .int ym.2.2.1, .int ym.2.2.2])), (ob, .inl (cZ, 5200, .inl bm.1)), (ok, .inl (cK, 600, .inl km.1))] H → va_D A [(om, .inr (3, [.int th, .int st, .int lo, .ref ob, .int bm.2.1, .int bm.2.2.1, .int bm.2.2.2.1, .int bm.2.2.2.2, .ref ok, .int km.2, .int qm.1, .int qm.2.1, .int qm.2.2.1, .int qm.2.2.2, .int bd, .int ym.1, .int ym.2.1, .int ym.2.2.1, .int ym.2.2.2])), (ob, .inl (cZ, 5200, .inl bm.1)), (ok, .inl (cK, 600, .inl km.1))] → va_S A s.heap H locs → ∀ (ls : Array Slot), lv_has ls 3 [(0, .ref om), (1, .int p0)] → W p l e (headSpec (Cond.code yX3_find cX3_find 3 (some .int) :: G) ({ frames := 1, cells := 0, slots := 0, locals := 25 } : Room)).room s m args below meth c H locs 0 0 (MQ below (va_Qi (fun (r : Int32) (u : Int32) => (r, u) = z) (fun (u : Int32) (t : State) => va_P (dC, dI) vwCl [(om, .inr (3, [.int u, .int st, .int lo, .ref ob, .int bm.2.1, .int bm.2.2.1, .int bm.2.2.2.1, .int bm.2.2.2.2, .ref ok, .int km.2, .int qm.1, .int qm.2.1, .int qm.2.2.1, .int qm.2.2.2, .int bd, .int ym.1, .int ym.2.1, .int ym.2.2.1, .int ym.2.2.2])), (ob, .inl (cZ, 5200, .inl bm.1)), (ok, .inl (cK, 600, .inl km.1))] t.heap ∧ va_D A [(om, .inr (3, [.int u, .int st, .int lo, .ref ob, .int bm.2.1, .int bm.2.2.1, .int bm.2.2.2.1, .int bm.2.2.2.2, .ref ok, .int km.2, .int qm.1, .int qm.2.1, .int qm.2.2.1, .int qm.2.2.2, .int bd, .int ym.1, .int ym.2.1, .int ym.2.2.1, .int ym.2.2.2])), (ob, .inl (cZ, 5200, .inl bm.1)), (ok, .inl (cK, 600, .inl km.1))]) A) args s 0 0 A) (F0 m 20 ls [.int v, .ref om]) := by
  intro th bm km qm bd ym p0 v hC hv hz H locs hP hD hS ls hl
  refine va_put (D := (dC, dI)) (ci := 3) (v := .int v) (ty := .int) (C := RX3) (T := TX3) (N := 19) hx hb hts inGX3 tyX3 tyX3_ok nmX3 hown hK hP hD hS 0 rfl rfl 0 (by decide) (hts _ wd437) (fun _ h9 => h9) rfl (by decide +kernel) rfl rfl (Nat.le_of_ble_eq_true rfl) dX3_find_20 (fun H locs hP hD hS => ?_)
  have hP : va_P (dC, dI) vwCl [(om, .inr (3, [.int v, .int st, .int lo, .ref ob, .int bm.2.1, .int bm.2.2.1, .int bm.2.2.2.1, .int bm.2.2.2.2, .ref ok, .int km.2, .int qm.1, .int qm.2.1, .int qm.2.2.1, .int qm.2.2.2, .int bd, .int ym.1, .int ym.2.1, .int ym.2.2.1, .int ym.2.2.2])), (ob, .inl (cZ, 5200, .inl bm.1)), (ok, .inl (cK, 600, .inl km.1))] H := hP
  have hD : va_D A [(om, .inr (3, [.int v, .int st, .int lo, .ref ob, .int bm.2.1, .int bm.2.2.1, .int bm.2.2.2.1, .int bm.2.2.2.2, .ref ok, .int km.2, .int qm.1, .int qm.2.1, .int qm.2.2.1, .int qm.2.2.2, .int bd, .int ym.1, .int ym.2.1, .int ym.2.2.1, .int ym.2.2.2])), (ob, .inl (cZ, 5200, .inl bm.1)), (ok, .inl (cK, 600, .inl km.1))] := hD
  refine lv_iload_n hx hb dX3_find_23 rfl (lv_at hl 1 rfl) ?_
  refine lv_istore_n (lv' := [(2, .int p0), (0, .ref om), (1, .int p0)]) hx hb dX3_find_24 rfl hl (by decide) rfl (fun ls hl => ?_)
  exact kX3_find_25 hx hb hr hml hown hts hlocks hA hZ hK (fz p0 km.2) v bm km qm bd ym p0 p0 (fz_ok _ _) hC hv ((plX3_find_l20_0 st lo th bm km qm bd ym p0 v).trans hz) _ _ (hP.sub (ws' := [(om, .inr (3, [.int v, .int st, .int lo, .ref ob, .int bm.2.1, .int bm.2.2.1, .int bm.2.2.2.1, .int bm.2.2.2.2, .ref ok, .int km.2, .int qm.1, .int qm.2.1, .int qm.2.2.1, .int qm.2.2.2, .int bd, .int ym.1, .int ym.2.1, .int ym.2.2.1, .int ym.2.2.2])), (ob, .inl (cZ, 5200, .inl bm.1)), (ok, .inl (cK, 600, .inl km.1))]) [0, 1, 2] rfl) (hD.sub (ws' := [(om, .inr (3, [.int v, .int st, .int lo, .ref ob, .int bm.2.1, .int bm.2.2.1, .int bm.2.2.2.1, .int bm.2.2.2.2, .ref ok, .int km.2, .int qm.1, .int qm.2.1, .int qm.2.2.1, .int qm.2.2.2, .int bd, .int ym.1, .int ym.2.1, .int ym.2.2.1, .int ym.2.2.2])), (ob, .inl (cZ, 5200, .inl bm.1)), (ok, .inl (cK, 600, .inl km.1))]) [0, 1, 2] (by decide) rfl) hS ls (lv_sub hl [1, 2, 0] rfl)
set_option maxHeartbeats 4000000 in
set_option maxRecDepth 100000 in
theorem mX3_find (l : Launch) (dC : Nat → ClassId) (dI : Nat → Nat → Nat) (cZ cK : ClassId) (om ob ok : Nat) (sz : Nat) (st : Int32) (lo : Int32) (th : Int32) (bm : Bm) (km : Rw) (qm : Tk) (bd : Int32) (ym : Tk) (p0 : Int32) (hC : cOk km) : Met l yX3_find (Cond.code yX3_find cX3_find 3 (some .int) :: G) ({ frames := 1, cells := 0, slots := 0, locals := 25 } : Room) (va_Pc [.ref om, .int p0] (fun U => U.heap.size = sz ∧ va_P (dC, dI) vwCl [(om, .inr (3, [.int th, .int st, .int lo, .ref ob, .int bm.2.1, .int bm.2.2.1, .int bm.2.2.2.1, .int bm.2.2.2.2, .ref ok, .int km.2, .int qm.1, .int qm.2.1, .int qm.2.2.1, .int qm.2.2.2, .int bd, .int ym.1, .int ym.2.1, .int ym.2.2.1, .int ym.2.2.2])), (ob, .inl (cZ, 5200, .inl bm.1)), (ok, .inl (cK, 600, .inl km.1))] U.heap ∧ va_K (dC, dI) vwCl [(cZ, .boolean), (cK, .int)] U ∧ va_D (fun _ => True) [(om, .inr (3, [.int th, .int st, .int lo, .ref ob, .int bm.2.1, .int bm.2.2.1, .int bm.2.2.2.1, .int bm.2.2.2.2, .ref ok, .int km.2, .int qm.1, .int qm.2.1, .int qm.2.2.1, .int qm.2.2.2, .int bd, .int ym.1, .int ym.2.1, .int ym.2.2.1, .int ym.2.2.2])), (ob, .inl (cZ, 5200, .inl bm.1)), (ok, .inl (cK, 600, .inl km.1))] ∧ zOk U)) (va_Qi (fun (r : Int32) (u : Int32) => (r, u) = (FX3_find st lo th bm km qm bd ym p0)) (fun (u : Int32) (t : State) => va_P (dC, dI) vwCl [(om, .inr (3, [.int u, .int st, .int lo, .ref ob, .int bm.2.1, .int bm.2.2.1, .int bm.2.2.2.1, .int bm.2.2.2.2, .ref ok, .int km.2, .int qm.1, .int qm.2.1, .int qm.2.2.1, .int qm.2.2.2, .int bd, .int ym.1, .int ym.2.1, .int ym.2.2.1, .int ym.2.2.2])), (ob, .inl (cZ, 5200, .inl bm.1)), (ok, .inl (cK, 600, .inl km.1))] t.heap ∧ va_D (va_A [(om, .inr (3, [.int th, .int st, .int lo, .ref ob, .int bm.2.1, .int bm.2.2.1, .int bm.2.2.2.1, .int bm.2.2.2.2, .ref ok, .int km.2, .int qm.1, .int qm.2.1, .int qm.2.2.1, .int qm.2.2.2, .int bd, .int ym.1, .int ym.2.1, .int ym.2.2.1, .int ym.2.2.2])), (ob, .inl (cZ, 5200, .inl bm.1)), (ok, .inl (cK, 600, .inl km.1))] sz) [(om, .inr (3, [.int u, .int st, .int lo, .ref ob, .int bm.2.1, .int bm.2.2.1, .int bm.2.2.2.1, .int bm.2.2.2.2, .ref ok, .int km.2, .int qm.1, .int qm.2.1, .int qm.2.2.1, .int qm.2.2.2, .int bd, .int ym.1, .int ym.2.1, .int ym.2.2.1, .int ym.2.2.2])), (ob, .inl (cZ, 5200, .inl bm.1)), (ok, .inl (cK, 600, .inl km.1))]) (va_A [(om, .inr (3, [.int th, .int st, .int lo, .ref ob, .int bm.2.1, .int bm.2.2.1, .int bm.2.2.2.1, .int bm.2.2.2.2, .ref ok, .int km.2, .int qm.1, .int qm.2.1, .int qm.2.2.1, .int qm.2.2.2, .int bd, .int ym.1, .int ym.2.1, .int ym.2.2.1, .int ym.2.2.2])), (ob, .inl (cZ, 5200, .inl bm.1)), (ok, .inl (cK, 600, .inl km.1))] sz)) 0 0 (va_A [(om, .inr (3, [.int th, .int st, .int lo, .ref ob, .int bm.2.1, .int bm.2.2.1, .int bm.2.2.2.1, .int bm.2.2.2.2, .ref ok, .int km.2, .int qm.1, .int qm.2.1, .int qm.2.2.1, .int qm.2.2.2, .int bd, .int ym.1, .int ym.2.1, .int ym.2.2.1, .int ym.2.2.2])), (ob, .inl (cZ, 5200, .inl bm.1)), (ok, .inl (cK, 600, .inl km.1))] sz) := by
  refine Met.ofW (cc := cX3_find) (maxL := 3) (ret := (some .int)) (by decide) rfl ?_
  intro p e s m args below meth c s₁ B hml hv
  obtain ⟨rfl, hsz, hP, hK, hD0, hZ⟩ := hv
  have hx := B.exec
  have hb := B.bytes
  have hr := B.returns
  have hts : ∀ w ∈ G, w.before [.ref om, .int p0].toArray s = true := fun w h => atoms_spec (ws := (Cond.code yX3_find cX3_find 3 (some .int) :: G)) B.pre w (List.mem_cons_of_mem _ h)
  have hown : s.vm.findClass RX3 = some m.cls := findClass_of_methodNamed B.named
  have hlocks := B.notSynchronized
  subst hsz
  have hD := hD0.self (sz := s.heap.size)
  generalize hAe : va_A [(om, .inr (3, [.int th, .int st, .int lo, .ref ob, .int bm.2.1, .int bm.2.2.1, .int bm.2.2.2.1, .int bm.2.2.2.2, .ref ok, .int km.2, .int qm.1, .int qm.2.1, .int qm.2.2.1, .int qm.2.2.2, .int bd, .int ym.1, .int ym.2.1, .int ym.2.2.1, .int ym.2.2.2])), (ob, .inl (cZ, 5200, .inl bm.1)), (ok, .inl (cK, 600, .inl km.1))] s.heap.size = A at hD ⊢
  have hA : ∀ q : Nat, s.heap.size ≤ q → A q := fun q h => by rw [← hAe]; exact Or.inr h
  have hS : va_S A s.heap s.heap [] := va_S.rf
  have hP : va_P (dC, dI) vwCl [(om, .inr (3, [.int th, .int st, .int lo, .ref ob, .int bm.2.1, .int bm.2.2.1, .int bm.2.2.2.1, .int bm.2.2.2.2, .ref ok, .int km.2, .int qm.1, .int qm.2.1, .int qm.2.2.1, .int qm.2.2.2, .int bd, .int ym.1, .int ym.2.1, .int ym.2.2.1, .int ym.2.2.2])), (ob, .inl (cZ, 5200, .inl bm.1)), (ok, .inl (cK, 600, .inl km.1))] s.heap := hP
  have hl := lv_entry ([.ref om, .int p0]) (n := 3) (Nat.le_of_ble_eq_true rfl)
  rw [lg_entry_eq]
  generalize (lg_sl ([.ref om, .int p0]) ++ List.replicate (3 - (lg_sl ([.ref om, .int p0])).length) Slot.unset).toArray = ls at hl ⊢
  have hl : lv_has ls 3 [(0, .ref om), (1, .int p0)] := hl
  refine lv_aload_n hx hb dX3_find_0 rfl (lv_at hl 0 rfl) ?_
  refine lv_iload_n hx hb dX3_find_1 rfl (lv_at hl 1 rfl) ?_
  refine lv_i2l (v := p0.toInt64) hx hb dX3_find_2 rfl ?_
  refine lv_lconst (v := 0) hx hb dX3_find_3 (by decide) ?_
  refine lv_aload_n hx hb dX3_find_4 rfl (lv_at hl 0 rfl) ?_
  refine va_get (D := (dC, dI)) (ci := 3) (v := .int km.2) (C := RX3) (T := TX3) (N := 19) hx hb hts inGX3 hown hK hP 0 rfl rfl 9 (by decide) (hts _ wd446) (fun _ h9 => h9) rfl dX3_find_5 ?_
  refine lv_i2l (v := km.2.toInt64) hx hb dX3_find_8 rfl ?_
  refine vp_callSi (va_Run.run (va_runS (As := [.long p0.toInt64, .long 0, .long km.2.toInt64]) (rest := [.ref om]) ⟨hx, hb, hml, hown, hts⟩ (mX3_isIn l dC dI p0.toInt64 0 km.2.toInt64) (va_cwS 3 hts (gS wd505 wd506 wd30 wd507) rfl rfl rfl (by decide +kernel) ⟨Nat.le_of_ble_eq_true rfl, Nat.le_of_ble_eq_true rfl⟩) ⟨fb_nw, pre_nw hZ⟩ rfl rfl hl.1 rfl (lv_room (Nat.le_of_ble_eq_true rfl)) dX3_find_9 ⟨Nat.le_of_ble_eq_true rfl, Nat.le_of_ble_eq_true rfl⟩)) (fun r_1 hw_2 => ?_)
  refine lv_if_eq (tgt := 19) hx hb dX3_find_12 (by decide) (fun c_12 => ?_) (fun c_12 => ?_)
  · refine lv_iconst (v := 1) hx hb dX3_find_19 (by decide) ?_
    exact kX3_find_20 hx hb hr hml hown hts hlocks hA hZ hK  th bm km qm bd ym p0 1 hC (by first | exact fun h => absurd h (by decide) | exact fun _ => fi_of (by assumption) c_12) (plX3_find_0 st lo th bm km qm bd ym p0 _ hw_2 c_12) _ _ (hP.sub (ws' := [(om, .inr (3, [.int th, .int st, .int lo, .ref ob, .int bm.2.1, .int bm.2.2.1, .int bm.2.2.2.1, .int bm.2.2.2.2, .ref ok, .int km.2, .int qm.1, .int qm.2.1, .int qm.2.2.1, .int qm.2.2.2, .int bd, .int ym.1, .int ym.2.1, .int ym.2.2.1, .int ym.2.2.2])), (ob, .inl (cZ, 5200, .inl bm.1)), (ok, .inl (cK, 600, .inl km.1))]) [0, 1, 2] rfl) (hD.sub (ws' := [(om, .inr (3, [.int th, .int st, .int lo, .ref ob, .int bm.2.1, .int bm.2.2.1, .int bm.2.2.2.1, .int bm.2.2.2.2, .ref ok, .int km.2, .int qm.1, .int qm.2.1, .int qm.2.2.1, .int qm.2.2.2, .int bd, .int ym.1, .int ym.2.1, .int ym.2.2.1, .int ym.2.2.2])), (ob, .inl (cZ, 5200, .inl bm.1)), (ok, .inl (cK, 600, .inl km.1))]) [0, 1, 2] (by decide) rfl) hS ls (lv_sub hl [0, 1] rfl)
  · refine lv_iconst (v := 0) hx hb dX3_find_15 (by decide) ?_
    refine lv_goto (tgt := 20) hx hb dX3_find_16 (by decide) ?_
    exact kX3_find_20 hx hb hr hml hown hts hlocks hA hZ hK  th bm km qm bd ym p0 0 hC (by first | exact fun h => absurd h (by decide) | exact fun _ => fi_of (by assumption) c_12) (plX3_find_1 st lo th bm km qm bd ym p0 _ hw_2 c_12) _ _ (hP.sub (ws' := [(om, .inr (3, [.int th, .int st, .int lo, .ref ob, .int bm.2.1, .int bm.2.2.1, .int bm.2.2.2.1, .int bm.2.2.2.2, .ref ok, .int km.2, .int qm.1, .int qm.2.1, .int qm.2.2.1, .int qm.2.2.2, .int bd, .int ym.1, .int ym.2.1, .int ym.2.2.1, .int ym.2.2.2])), (ob, .inl (cZ, 5200, .inl bm.1)), (ok, .inl (cK, 600, .inl km.1))]) [0, 1, 2] rfl) (hD.sub (ws' := [(om, .inr (3, [.int th, .int st, .int lo, .ref ob, .int bm.2.1, .int bm.2.2.1, .int bm.2.2.2.1, .int bm.2.2.2.2, .ref ok, .int km.2, .int qm.1, .int qm.2.1, .int qm.2.2.1, .int qm.2.2.2, .int bd, .int ym.1, .int ym.2.1, .int ym.2.2.1, .int ym.2.2.2])), (ob, .inl (cZ, 5200, .inl bm.1)), (ok, .inl (cK, 600, .inl km.1))]) [0, 1, 2] (by decide) rfl) hS ls (lv_sub hl [0, 1] rfl)
def LX3_sum_85 (st : Int32) (lo : Int32) : Nat → Int32 → Bm → Rw → Tk → Int32 → Tk → Int32 → Int32 → Int32 → Int32 → Int32 → Int32 → Int32 → Int32 × Int32
  | 0, th, bm, km, qm, bd, ym, p0, p1, p2, p3, al, sm, i => (0, th)
  | n + 1, th, bm, km, qm, bd, ym, p0, p1, p2, p3, al, sm, i =>
    if p3 ≤ i then
      if p1 = 16 then
        (sm, th)
      else
        (sm ^^^ (-1), th)
    else
      if p0 = 0 then
        let r_1 := FX3_byteOf st lo th bm km qm bd ym i
        if p1 = 16 then
          let r_6 := FX3_sum16 sm r_1
          let i_8 := i + 1
          LX3_sum_85 st lo n th bm km qm bd ym p0 p1 p2 p3 al r_6 i_8
        else
          let r_3 := FX3_sum32 sm r_1
          let i_5 := i + 1
          LX3_sum_85 st lo n th bm km qm bd ym p0 p1 p2 p3 al r_3 i_5
      else
        let x_9 := km.1 i.toNatClampNeg
        if p1 = 16 then
          let r_13 := FX3_sum16 sm x_9
          let i_15 := i + 1
          LX3_sum_85 st lo n th bm km qm bd ym p0 p1 p2 p3 al r_13 i_15
        else
          let r_10 := FX3_sum32 sm x_9
          let i_12 := i + 1
          LX3_sum_85 st lo n th bm km qm bd ym p0 p1 p2 p3 al r_10 i_12
def LX3_sum_56 (st : Int32) (lo : Int32) (th : Int32) (bm : Bm) (km : Rw) (qm : Tk) (bd : Int32) (ym : Tk) (p0 : Int32) (p1 : Int32) (p2 : Int32) (p3 : Int32) (al : Int32) (v : Int32) : Int32 × Int32 :=
  if v ≤ 0 then
    if p1 = 16 then
      LX3_sum_85 st lo (fz p2 p3) v bm km qm bd ym p0 p1 p2 p3 al 65535 p2
    else
      LX3_sum_85 st lo (fz p2 p3) v bm km qm bd ym p0 p1 p2 p3 al (-1) p2
  else
    (0, v)
def FX3_sum (st : Int32) (lo : Int32) (th : Int32) (bm : Bm) (km : Rw) (qm : Tk) (bd : Int32) (ym : Tk) (p0 : Int32) (p1 : Int32) (p2 : Int32) (p3 : Int32) : Int32 × Int32 :=
  if p0 = 0 then
    let r_1 := FX3_bytesWritten st lo th bm km qm bd ym
    if p1 = 16 then
      if p2 < 0 then
        LX3_sum_56 st lo th bm km qm bd ym p0 p1 p2 p3 r_1 2
      else
        if p3 < p2 then
          LX3_sum_56 st lo th bm km qm bd ym p0 p1 p2 p3 r_1 2
        else
          if p3 ≤ r_1 then
            LX3_sum_56 st lo th bm km qm bd ym p0 p1 p2 p3 r_1 0
          else
            LX3_sum_56 st lo th bm km qm bd ym p0 p1 p2 p3 r_1 2
    else
      if p1 = 32 then
        if p2 < 0 then
          LX3_sum_56 st lo th bm km qm bd ym p0 p1 p2 p3 r_1 2
        else
          if p3 < p2 then
            LX3_sum_56 st lo th bm km qm bd ym p0 p1 p2 p3 r_1 2
          else
            if p3 ≤ r_1 then
              LX3_sum_56 st lo th bm km qm bd ym p0 p1 p2 p3 r_1 0
            else
              LX3_sum_56 st lo th bm km qm bd ym p0 p1 p2 p3 r_1 2
      else
        LX3_sum_56 st lo th bm km qm bd ym p0 p1 p2 p3 r_1 1
  else
    if p1 = 16 then
      if p2 < 0 then
        LX3_sum_56 st lo th bm km qm bd ym p0 p1 p2 p3 km.2 2
      else
        if p3 < p2 then
          LX3_sum_56 st lo th bm km qm bd ym p0 p1 p2 p3 km.2 2
        else
          if p3 ≤ km.2 then
            LX3_sum_56 st lo th bm km qm bd ym p0 p1 p2 p3 km.2 0
          else
            LX3_sum_56 st lo th bm km qm bd ym p0 p1 p2 p3 km.2 2
    else
      if p1 = 32 then
        if p2 < 0 then
          LX3_sum_56 st lo th bm km qm bd ym p0 p1 p2 p3 km.2 2
        else
          if p3 < p2 then
            LX3_sum_56 st lo th bm km qm bd ym p0 p1 p2 p3 km.2 2
          else
            if p3 ≤ km.2 then
              LX3_sum_56 st lo th bm km qm bd ym p0 p1 p2 p3 km.2 0
            else
              LX3_sum_56 st lo th bm km qm bd ym p0 p1 p2 p3 km.2 2
      else
        LX3_sum_56 st lo th bm km qm bd ym p0 p1 p2 p3 km.2 1
set_option maxRecDepth 100000 in
theorem plX3_sum_l85_0 (st : Int32) (lo : Int32) (n : Nat) (th : Int32) (bm : Bm) (km : Rw) (qm : Tk) (bd : Int32) (ym : Tk) (p0 : Int32) (p1 : Int32) (p2 : Int32) (p3 : Int32) (al : Int32) (sm : Int32) (i : Int32) (c_89 : p3 ≤ i) (c_148 : ¬ (p1 = 16)) : (sm ^^^ (-1), th) = LX3_sum_85 st lo (n + 1) th bm km qm bd ym p0 p1 p2 p3 al sm i := by
  exact ((if_pos c_89).trans (if_neg c_148)).symm
set_option maxRecDepth 100000 in
theorem plX3_sum_l85_1 (st : Int32) (lo : Int32) (n : Nat) (th : Int32) (bm : Bm) (km : Rw) (qm : Tk) (bd : Int32) (ym : Tk) (p0 : Int32) (p1 : Int32) (p2 : Int32) (p3 : Int32) (al : Int32) (sm : Int32) (i : Int32) (c_89 : p3 ≤ i) (c_148 : p1 = 16) : (sm, th) = LX3_sum_85 st lo (n + 1) th bm km qm bd ym p0 p1 p2 p3 al sm i := by
  exact ((if_pos c_89).trans (if_pos c_148)).symm
set_option maxRecDepth 100000 in
theorem plX3_sum_l85_2 (st : Int32) (lo : Int32) (n : Nat) (th : Int32) (bm : Bm) (km : Rw) (qm : Tk) (bd : Int32) (ym : Tk) (p0 : Int32) (p1 : Int32) (p2 : Int32) (p3 : Int32) (al : Int32) (sm : Int32) (i : Int32) (c_89 : ¬ (p3 ≤ i)) (c_93 : p0 = 0) (r_1 : Int32) (hw_2 : r_1 = FX3_byteOf st lo th bm km qm bd ym i) (c_117 : ¬ (p1 = 16)) (r_3 : Int32) (hw_4 : r_3 = FX3_sum32 sm r_1) (i_5 : Int32) (ei_5 : i_5 = i + 1) : LX3_sum_85 st lo n th bm km qm bd ym p0 p1 p2 p3 al r_3 i_5 = LX3_sum_85 st lo (n + 1) th bm km qm bd ym p0 p1 p2 p3 al sm i := by
  subst hw_2
  subst hw_4
  subst ei_5
  exact (((if_neg c_89).trans (if_pos c_93)).trans (if_neg c_117)).symm
set_option maxRecDepth 100000 in
theorem plX3_sum_l85_3 (st : Int32) (lo : Int32) (n : Nat) (th : Int32) (bm : Bm) (km : Rw) (qm : Tk) (bd : Int32) (ym : Tk) (p0 : Int32) (p1 : Int32) (p2 : Int32) (p3 : Int32) (al : Int32) (sm : Int32) (i : Int32) (c_89 : ¬ (p3 ≤ i)) (c_93 : p0 = 0) (r_1 : Int32) (hw_2 : r_1 = FX3_byteOf st lo th bm km qm bd ym i) (c_117 : p1 = 16) (r_6 : Int32) (hw_7 : r_6 = FX3_sum16 sm r_1) (i_8 : Int32) (ei_8 : i_8 = i + 1) : LX3_sum_85 st lo n th bm km qm bd ym p0 p1 p2 p3 al r_6 i_8 = LX3_sum_85 st lo (n + 1) th bm km qm bd ym p0 p1 p2 p3 al sm i := by
  subst hw_2
  subst hw_7
  subst ei_8
  exact (((if_neg c_89).trans (if_pos c_93)).trans (if_pos c_117)).symm
set_option maxRecDepth 100000 in
theorem plX3_sum_l85_4 (st : Int32) (lo : Int32) (n : Nat) (th : Int32) (bm : Bm) (km : Rw) (qm : Tk) (bd : Int32) (ym : Tk) (p0 : Int32) (p1 : Int32) (p2 : Int32) (p3 : Int32) (al : Int32) (sm : Int32) (i : Int32) (c_89 : ¬ (p3 ≤ i)) (c_93 : ¬ (p0 = 0)) (x_9 : Int32) (ex_9 : x_9 = km.1 i.toNatClampNeg) (c_117 : ¬ (p1 = 16)) (r_10 : Int32) (hw_11 : r_10 = FX3_sum32 sm x_9) (i_12 : Int32) (ei_12 : i_12 = i + 1) : LX3_sum_85 st lo n th bm km qm bd ym p0 p1 p2 p3 al r_10 i_12 = LX3_sum_85 st lo (n + 1) th bm km qm bd ym p0 p1 p2 p3 al sm i := by
  subst ex_9
  subst hw_11
  subst ei_12
  exact (((if_neg c_89).trans (if_neg c_93)).trans (if_neg c_117)).symm
set_option maxRecDepth 100000 in
theorem plX3_sum_l85_5 (st : Int32) (lo : Int32) (n : Nat) (th : Int32) (bm : Bm) (km : Rw) (qm : Tk) (bd : Int32) (ym : Tk) (p0 : Int32) (p1 : Int32) (p2 : Int32) (p3 : Int32) (al : Int32) (sm : Int32) (i : Int32) (c_89 : ¬ (p3 ≤ i)) (c_93 : ¬ (p0 = 0)) (x_9 : Int32) (ex_9 : x_9 = km.1 i.toNatClampNeg) (c_117 : p1 = 16) (r_13 : Int32) (hw_14 : r_13 = FX3_sum16 sm x_9) (i_15 : Int32) (ei_15 : i_15 = i + 1) : LX3_sum_85 st lo n th bm km qm bd ym p0 p1 p2 p3 al r_13 i_15 = LX3_sum_85 st lo (n + 1) th bm km qm bd ym p0 p1 p2 p3 al sm i := by
  subst ex_9
  subst hw_14
  subst ei_15
  exact (((if_neg c_89).trans (if_neg c_93)).trans (if_pos c_117)).symm
set_option maxRecDepth 100000 in
theorem plX3_sum_l56_0 (st : Int32) (lo : Int32) (th : Int32) (bm : Bm) (km : Rw) (qm : Tk) (bd : Int32) (ym : Tk) (p0 : Int32) (p1 : Int32) (p2 : Int32) (p3 : Int32) (al : Int32) (v : Int32) (c_63 : v ≤ 0) (c_71 : ¬ (p1 = 16)) : LX3_sum_85 st lo (fz p2 p3) v bm km qm bd ym p0 p1 p2 p3 al (-1) p2 = LX3_sum_56 st lo th bm km qm bd ym p0 p1 p2 p3 al v := by
  exact ((if_pos c_63).trans (if_neg c_71)).symm
set_option maxRecDepth 100000 in
theorem plX3_sum_l56_1 (st : Int32) (lo : Int32) (th : Int32) (bm : Bm) (km : Rw) (qm : Tk) (bd : Int32) (ym : Tk) (p0 : Int32) (p1 : Int32) (p2 : Int32) (p3 : Int32) (al : Int32) (v : Int32) (c_63 : v ≤ 0) (c_71 : p1 = 16) : LX3_sum_85 st lo (fz p2 p3) v bm km qm bd ym p0 p1 p2 p3 al 65535 p2 = LX3_sum_56 st lo th bm km qm bd ym p0 p1 p2 p3 al v := by
  exact ((if_pos c_63).trans (if_pos c_71)).symm
set_option maxRecDepth 100000 in
theorem plX3_sum_l56_2 (st : Int32) (lo : Int32) (th : Int32) (bm : Bm) (km : Rw) (qm : Tk) (bd : Int32) (ym : Tk) (p0 : Int32) (p1 : Int32) (p2 : Int32) (p3 : Int32) (al : Int32) (v : Int32) (c_63 : ¬ (v ≤ 0)) : (0, v) = LX3_sum_56 st lo th bm km qm bd ym p0 p1 p2 p3 al v := by
  exact (if_neg c_63).symm
set_option maxRecDepth 100000 in
theorem plX3_sum_0 (st : Int32) (lo : Int32) (th : Int32) (bm : Bm) (km : Rw) (qm : Tk) (bd : Int32) (ym : Tk) (p0 : Int32) (p1 : Int32) (p2 : Int32) (p3 : Int32) (c_1 : p0 = 0) (r_1 : Int32) (hw_2 : r_1 = FX3_bytesWritten st lo th bm km qm bd ym) (c_21 : p1 = 16) (c_35 : p2 < 0) : LX3_sum_56 st lo th bm km qm bd ym p0 p1 p2 p3 r_1 2 = FX3_sum st lo th bm km qm bd ym p0 p1 p2 p3 := by
  subst hw_2
  exact (((if_pos c_1).trans (if_pos c_21)).trans (if_pos c_35)).symm
set_option maxRecDepth 100000 in
theorem plX3_sum_1 (st : Int32) (lo : Int32) (th : Int32) (bm : Bm) (km : Rw) (qm : Tk) (bd : Int32) (ym : Tk) (p0 : Int32) (p1 : Int32) (p2 : Int32) (p3 : Int32) (c_1 : p0 = 0) (r_1 : Int32) (hw_2 : r_1 = FX3_bytesWritten st lo th bm km qm bd ym) (c_21 : p1 = 16) (c_35 : ¬ (p2 < 0)) (c_41 : p3 < p2) : LX3_sum_56 st lo th bm km qm bd ym p0 p1 p2 p3 r_1 2 = FX3_sum st lo th bm km qm bd ym p0 p1 p2 p3 := by
  subst hw_2
  exact ((((if_pos c_1).trans (if_pos c_21)).trans (if_neg c_35)).trans (if_pos c_41)).symm
set_option maxRecDepth 100000 in
theorem plX3_sum_2 (st : Int32) (lo : Int32) (th : Int32) (bm : Bm) (km : Rw) (qm : Tk) (bd : Int32) (ym : Tk) (p0 : Int32) (p1 : Int32) (p2 : Int32) (p3 : Int32) (c_1 : p0 = 0) (r_1 : Int32) (hw_2 : r_1 = FX3_bytesWritten st lo th bm km qm bd ym) (c_21 : p1 = 16) (c_35 : ¬ (p2 < 0)) (c_41 : ¬ (p3 < p2)) (c_48 : p3 ≤ r_1) : LX3_sum_56 st lo th bm km qm bd ym p0 p1 p2 p3 r_1 0 = FX3_sum st lo th bm km qm bd ym p0 p1 p2 p3 := by
  subst hw_2
  exact (((((if_pos c_1).trans (if_pos c_21)).trans (if_neg c_35)).trans (if_neg c_41)).trans (if_pos c_48)).symm
set_option maxRecDepth 100000 in
theorem plX3_sum_3 (st : Int32) (lo : Int32) (th : Int32) (bm : Bm) (km : Rw) (qm : Tk) (bd : Int32) (ym : Tk) (p0 : Int32) (p1 : Int32) (p2 : Int32) (p3 : Int32) (c_1 : p0 = 0) (r_1 : Int32) (hw_2 : r_1 = FX3_bytesWritten st lo th bm km qm bd ym) (c_21 : p1 = 16) (c_35 : ¬ (p2 < 0)) (c_41 : ¬ (p3 < p2)) (c_48 : ¬ (p3 ≤ r_1)) : LX3_sum_56 st lo th bm km qm bd ym p0 p1 p2 p3 r_1 2 = FX3_sum st lo th bm km qm bd ym p0 p1 p2 p3 := by
  subst hw_2
  exact (((((if_pos c_1).trans (if_pos c_21)).trans (if_neg c_35)).trans (if_neg c_41)).trans (if_neg c_48)).symm
set_option maxRecDepth 100000 in
theorem plX3_sum_4 (st : Int32) (lo : Int32) (th : Int32) (bm : Bm) (km : Rw) (qm : Tk) (bd : Int32) (ym : Tk) (p0 : Int32) (p1 : Int32) (p2 : Int32) (p3 : Int32) (c_1 : p0 = 0) (r_1 : Int32) (hw_2 : r_1 = FX3_bytesWritten st lo th bm km qm bd ym) (c_21 : ¬ (p1 = 16)) (c_27 : p1 = 32) (c_35 : p2 < 0) : LX3_sum_56 st lo th bm km qm bd ym p0 p1 p2 p3 r_1 2 = FX3_sum st lo th bm km qm bd ym p0 p1 p2 p3 := by
  subst hw_2
  exact ((((if_pos c_1).trans (if_neg c_21)).trans (if_pos c_27)).trans (if_pos c_35)).symm
set_option maxRecDepth 100000 in
theorem plX3_sum_5 (st : Int32) (lo : Int32) (th : Int32) (bm : Bm) (km : Rw) (qm : Tk) (bd : Int32) (ym : Tk) (p0 : Int32) (p1 : Int32) (p2 : Int32) (p3 : Int32) (c_1 : p0 = 0) (r_1 : Int32) (hw_2 : r_1 = FX3_bytesWritten st lo th bm km qm bd ym) (c_21 : ¬ (p1 = 16)) (c_27 : p1 = 32) (c_35 : ¬ (p2 < 0)) (c_41 : p3 < p2) : LX3_sum_56 st lo th bm km qm bd ym p0 p1 p2 p3 r_1 2 = FX3_sum st lo th bm km qm bd ym p0 p1 p2 p3 := by
  subst hw_2
  exact (((((if_pos c_1).trans (if_neg c_21)).trans (if_pos c_27)).trans (if_neg c_35)).trans (if_pos c_41)).symm
set_option maxRecDepth 100000 in
theorem plX3_sum_6 (st : Int32) (lo : Int32) (th : Int32) (bm : Bm) (km : Rw) (qm : Tk) (bd : Int32) (ym : Tk) (p0 : Int32) (p1 : Int32) (p2 : Int32) (p3 : Int32) (c_1 : p0 = 0) (r_1 : Int32) (hw_2 : r_1 = FX3_bytesWritten st lo th bm km qm bd ym) (c_21 : ¬ (p1 = 16)) (c_27 : p1 = 32) (c_35 : ¬ (p2 < 0)) (c_41 : ¬ (p3 < p2)) (c_48 : p3 ≤ r_1) : LX3_sum_56 st lo th bm km qm bd ym p0 p1 p2 p3 r_1 0 = FX3_sum st lo th bm km qm bd ym p0 p1 p2 p3 := by
  subst hw_2
  exact ((((((if_pos c_1).trans (if_neg c_21)).trans (if_pos c_27)).trans (if_neg c_35)).trans (if_neg c_41)).trans (if_pos c_48)).symm
set_option maxRecDepth 100000 in
theorem plX3_sum_7 (st : Int32) (lo : Int32) (th : Int32) (bm : Bm) (km : Rw) (qm : Tk) (bd : Int32) (ym : Tk) (p0 : Int32) (p1 : Int32) (p2 : Int32) (p3 : Int32) (c_1 : p0 = 0) (r_1 : Int32) (hw_2 : r_1 = FX3_bytesWritten st lo th bm km qm bd ym) (c_21 : ¬ (p1 = 16)) (c_27 : p1 = 32) (c_35 : ¬ (p2 < 0)) (c_41 : ¬ (p3 < p2)) (c_48 : ¬ (p3 ≤ r_1)) : LX3_sum_56 st lo th bm km qm bd ym p0 p1 p2 p3 r_1 2 = FX3_sum st lo th bm km qm bd ym p0 p1 p2 p3 := by
  subst hw_2
  exact ((((((if_pos c_1).trans (if_neg c_21)).trans (if_pos c_27)).trans (if_neg c_35)).trans (if_neg c_41)).trans (if_neg c_48)).symm
set_option maxRecDepth 100000 in
theorem plX3_sum_8 (st : Int32) (lo : Int32) (th : Int32) (bm : Bm) (km : Rw) (qm : Tk) (bd : Int32) (ym : Tk) (p0 : Int32) (p1 : Int32) (p2 : Int32) (p3 : Int32) (c_1 : p0 = 0) (r_1 : Int32) (hw_2 : r_1 = FX3_bytesWritten st lo th bm km qm bd ym) (c_21 : ¬ (p1 = 16)) (c_27 : ¬ (p1 = 32)) : LX3_sum_56 st lo th bm km qm bd ym p0 p1 p2 p3 r_1 1 = FX3_sum st lo th bm km qm bd ym p0 p1 p2 p3 := by
  subst hw_2
  exact (((if_pos c_1).trans (if_neg c_21)).trans (if_neg c_27)).symm
set_option maxRecDepth 100000 in
theorem plX3_sum_9 (st : Int32) (lo : Int32) (th : Int32) (bm : Bm) (km : Rw) (qm : Tk) (bd : Int32) (ym : Tk) (p0 : Int32) (p1 : Int32) (p2 : Int32) (p3 : Int32) (c_1 : ¬ (p0 = 0)) (c_21 : p1 = 16) (c_35 : p2 < 0) : LX3_sum_56 st lo th bm km qm bd ym p0 p1 p2 p3 km.2 2 = FX3_sum st lo th bm km qm bd ym p0 p1 p2 p3 := by
  exact (((if_neg c_1).trans (if_pos c_21)).trans (if_pos c_35)).symm
set_option maxRecDepth 100000 in
theorem plX3_sum_10 (st : Int32) (lo : Int32) (th : Int32) (bm : Bm) (km : Rw) (qm : Tk) (bd : Int32) (ym : Tk) (p0 : Int32) (p1 : Int32) (p2 : Int32) (p3 : Int32) (c_1 : ¬ (p0 = 0)) (c_21 : p1 = 16) (c_35 : ¬ (p2 < 0)) (c_41 : p3 < p2) : LX3_sum_56 st lo th bm km qm bd ym p0 p1 p2 p3 km.2 2 = FX3_sum st lo th bm km qm bd ym p0 p1 p2 p3 := by
  exact ((((if_neg c_1).trans (if_pos c_21)).trans (if_neg c_35)).trans (if_pos c_41)).symm
set_option maxRecDepth 100000 in
theorem plX3_sum_11 (st : Int32) (lo : Int32) (th : Int32) (bm : Bm) (km : Rw) (qm : Tk) (bd : Int32) (ym : Tk) (p0 : Int32) (p1 : Int32) (p2 : Int32) (p3 : Int32) (c_1 : ¬ (p0 = 0)) (c_21 : p1 = 16) (c_35 : ¬ (p2 < 0)) (c_41 : ¬ (p3 < p2)) (c_48 : p3 ≤ km.2) : LX3_sum_56 st lo th bm km qm bd ym p0 p1 p2 p3 km.2 0 = FX3_sum st lo th bm km qm bd ym p0 p1 p2 p3 := by
  exact (((((if_neg c_1).trans (if_pos c_21)).trans (if_neg c_35)).trans (if_neg c_41)).trans (if_pos c_48)).symm
set_option maxRecDepth 100000 in
theorem plX3_sum_12 (st : Int32) (lo : Int32) (th : Int32) (bm : Bm) (km : Rw) (qm : Tk) (bd : Int32) (ym : Tk) (p0 : Int32) (p1 : Int32) (p2 : Int32) (p3 : Int32) (c_1 : ¬ (p0 = 0)) (c_21 : p1 = 16) (c_35 : ¬ (p2 < 0)) (c_41 : ¬ (p3 < p2)) (c_48 : ¬ (p3 ≤ km.2)) : LX3_sum_56 st lo th bm km qm bd ym p0 p1 p2 p3 km.2 2 = FX3_sum st lo th bm km qm bd ym p0 p1 p2 p3 := by
  exact (((((if_neg c_1).trans (if_pos c_21)).trans (if_neg c_35)).trans (if_neg c_41)).trans (if_neg c_48)).symm
set_option maxRecDepth 100000 in
theorem plX3_sum_13 (st : Int32) (lo : Int32) (th : Int32) (bm : Bm) (km : Rw) (qm : Tk) (bd : Int32) (ym : Tk) (p0 : Int32) (p1 : Int32) (p2 : Int32) (p3 : Int32) (c_1 : ¬ (p0 = 0)) (c_21 : ¬ (p1 = 16)) (c_27 : p1 = 32) (c_35 : p2 < 0) : LX3_sum_56 st lo th bm km qm bd ym p0 p1 p2 p3 km.2 2 = FX3_sum st lo th bm km qm bd ym p0 p1 p2 p3 := by
  exact ((((if_neg c_1).trans (if_neg c_21)).trans (if_pos c_27)).trans (if_pos c_35)).symm
set_option maxRecDepth 100000 in
theorem plX3_sum_14 (st : Int32) (lo : Int32) (th : Int32) (bm : Bm) (km : Rw) (qm : Tk) (bd : Int32) (ym : Tk) (p0 : Int32) (p1 : Int32) (p2 : Int32) (p3 : Int32) (c_1 : ¬ (p0 = 0)) (c_21 : ¬ (p1 = 16)) (c_27 : p1 = 32) (c_35 : ¬ (p2 < 0)) (c_41 : p3 < p2) : LX3_sum_56 st lo th bm km qm bd ym p0 p1 p2 p3 km.2 2 = FX3_sum st lo th bm km qm bd ym p0 p1 p2 p3 := by
  exact (((((if_neg c_1).trans (if_neg c_21)).trans (if_pos c_27)).trans (if_neg c_35)).trans (if_pos c_41)).symm
set_option maxRecDepth 100000 in
theorem plX3_sum_15 (st : Int32) (lo : Int32) (th : Int32) (bm : Bm) (km : Rw) (qm : Tk) (bd : Int32) (ym : Tk) (p0 : Int32) (p1 : Int32) (p2 : Int32) (p3 : Int32) (c_1 : ¬ (p0 = 0)) (c_21 : ¬ (p1 = 16)) (c_27 : p1 = 32) (c_35 : ¬ (p2 < 0)) (c_41 : ¬ (p3 < p2)) (c_48 : p3 ≤ km.2) : LX3_sum_56 st lo th bm km qm bd ym p0 p1 p2 p3 km.2 0 = FX3_sum st lo th bm km qm bd ym p0 p1 p2 p3 := by
  exact ((((((if_neg c_1).trans (if_neg c_21)).trans (if_pos c_27)).trans (if_neg c_35)).trans (if_neg c_41)).trans (if_pos c_48)).symm
set_option maxRecDepth 100000 in
theorem plX3_sum_16 (st : Int32) (lo : Int32) (th : Int32) (bm : Bm) (km : Rw) (qm : Tk) (bd : Int32) (ym : Tk) (p0 : Int32) (p1 : Int32) (p2 : Int32) (p3 : Int32) (c_1 : ¬ (p0 = 0)) (c_21 : ¬ (p1 = 16)) (c_27 : p1 = 32) (c_35 : ¬ (p2 < 0)) (c_41 : ¬ (p3 < p2)) (c_48 : ¬ (p3 ≤ km.2)) : LX3_sum_56 st lo th bm km qm bd ym p0 p1 p2 p3 km.2 2 = FX3_sum st lo th bm km qm bd ym p0 p1 p2 p3 := by
  exact ((((((if_neg c_1).trans (if_neg c_21)).trans (if_pos c_27)).trans (if_neg c_35)).trans (if_neg c_41)).trans (if_neg c_48)).symm
set_option maxRecDepth 100000 in
theorem plX3_sum_17 (st : Int32) (lo : Int32) (th : Int32) (bm : Bm) (km : Rw) (qm : Tk) (bd : Int32) (ym : Tk) (p0 : Int32) (p1 : Int32) (p2 : Int32) (p3 : Int32) (c_1 : ¬ (p0 = 0)) (c_21 : ¬ (p1 = 16)) (c_27 : ¬ (p1 = 32)) : LX3_sum_56 st lo th bm km qm bd ym p0 p1 p2 p3 km.2 1 = FX3_sum st lo th bm km qm bd ym p0 p1 p2 p3 := by
  exact (((if_neg c_1).trans (if_neg c_21)).trans (if_neg c_27)).symm
set_option maxHeartbeats 4000000 in
set_option maxRecDepth 100000 in
theorem kX3_sum_85 {p : Program} {l : Launch} {e : Env} {s : State} {m : MethodId} {args : Array Value} {below : List Frame} {meth : Method} {c : Code} {dC : Nat → ClassId} {dI : Nat → Nat → Nat} {cZ cK : ClassId} {om ob ok : Nat} {st : Int32} {lo : Int32} {z : Int32 × Int32} {A : Nat → Prop} (hx : p.tables.exec = Jvm.exec) (hb : c.code = cX3_sum) (hr : meth.sig.returnType = (some .int)) (hml : c.maxLocals = 9) (hown : s.vm.findClass RX3 = some m.cls) (hts : ∀ w ∈ G, w.before args s = true) (hlocks : meth.locks = false) (hA : ∀ q : Nat, s.heap.size ≤ q → A q) (hZ : zOk s) (hK : va_K (dC, dI) vwCl [(cZ, .boolean), (cK, .int)] s) : ∀ (n : Nat) (th : Int32) (bm : Bm) (km : Rw) (qm : Tk) (bd : Int32) (ym : Tk) (p0 : Int32) (p1 : Int32) (p2 : Int32) (p3 : Int32) (al : Int32) (sm : Int32) (i : Int32), (fuel n i p3) → (wok bm 400) → (suOk p0 p3 i) → LX3_sum_85 st lo n th bm km qm bd ym p0 p1 p2 p3 al sm i = z → ∀ (H : Heap) (locs : List Loc), va_P (dC, dI) vwCl [(om, .inr (3, [.int th, .int st, .int lo, .ref ob, .int bm.2.1, .int bm.2.2.1, .int bm.2.2.2.1, .int bm.2.2.2.2, .ref ok, .int km.2, .int qm.1, .int qm.2.1, .int qm.2.2.1, .int qm.2.2.2, .int bd, .int ym.1, .int ym.2.1, .int ym.2.2.1, .int ym.2.2.2])), (ob, .inl (cZ, 5200, .inl bm.1)), (ok, .inl (cK, 600, .inl km.1))] H → va_D A [(om, .inr (3, [.int th, .int st, .int lo, .ref ob, .int bm.2.1, .int bm.2.2.1, .int bm.2.2.2.1, .int bm.2.2.2.2, .ref ok, .int km.2, .int qm.1, .int qm.2.1, .int qm.2.2.1, .int qm.2.2.2, .int bd, .int ym.1, .int ym.2.1, .int ym.2.2.1, .int ym.2.2.2])), (ob, .inl (cZ, 5200, .inl bm.1)), (ok, .inl (cK, 600, .inl km.1))] → va_S A s.heap H locs → ∀ (ls : Array Slot), lv_has ls 9 [(0, .ref om), (1, .int p0), (2, .int p1), (3, .int p2), (4, .int p3), (5, .int al), (6, .int sm), (7, .int i)] → W p l e (headSpec (Cond.code yX3_sum cX3_sum 9 (some .int) :: G) ({ frames := 1, cells := 0, slots := 0, locals := 25 } : Room)).room s m args below meth c H locs 0 0 (MQ below (va_Qi (fun (r : Int32) (u : Int32) => (r, u) = z) (fun (u : Int32) (t : State) => va_P (dC, dI) vwCl [(om, .inr (3, [.int u, .int st, .int lo, .ref ob, .int bm.2.1, .int bm.2.2.1, .int bm.2.2.2.1, .int bm.2.2.2.2, .ref ok, .int km.2, .int qm.1, .int qm.2.1, .int qm.2.2.1, .int qm.2.2.2, .int bd, .int ym.1, .int ym.2.1, .int ym.2.2.1, .int ym.2.2.2])), (ob, .inl (cZ, 5200, .inl bm.1)), (ok, .inl (cK, 600, .inl km.1))] t.heap ∧ va_D A [(om, .inr (3, [.int u, .int st, .int lo, .ref ob, .int bm.2.1, .int bm.2.2.1, .int bm.2.2.2.1, .int bm.2.2.2.2, .ref ok, .int km.2, .int qm.1, .int qm.2.1, .int qm.2.2.1, .int qm.2.2.2, .int bd, .int ym.1, .int ym.2.1, .int ym.2.2.1, .int ym.2.2.2])), (ob, .inl (cZ, 5200, .inl bm.1)), (ok, .inl (cK, 600, .inl km.1))]) A) args s 0 0 A) (F0 m 85 ls []) := by
  intro n
  induction n with
  | zero =>
    intro th bm km qm bd ym p0 p1 p2 p3 al sm i hf hW hs hz
    exact absurd hf.1 (Nat.lt_irrefl 0)
  | succ n ih =>
    intro th bm km qm bd ym p0 p1 p2 p3 al sm i hf hW hs hz H locs hP hD hS ls hl
    refine lv_iload hx hb dX3_sum_85 (lv_at hl 7 rfl) ?_
    refine lv_iload hx hb dX3_sum_87 (lv_at hl 4 rfl) ?_
    refine lv_icmp_ge (tgt := 145) hx hb dX3_sum_89 (by decide) (fun c_89 => ?_) (fun c_89 => ?_)
    · refine lv_iload_n hx hb dX3_sum_145 rfl (lv_at hl 2 rfl) ?_
      refine lv_bipush (v := 16) hx hb dX3_sum_146 (by decide) ?_
      refine lv_icmp_ne (tgt := 156) hx hb dX3_sum_148 (by decide) (fun c_148 => ?_) (fun c_148 => ?_)
      · refine lv_iload hx hb dX3_sum_156 (lv_at hl 6 rfl) ?_
        refine lv_iconst (v := (-1)) hx hb dX3_sum_158 (by decide) ?_
        refine lv_ixor hx hb dX3_sum_159 ?_
        have hP9 := hP.sub (ws' := [(om, .inr (3, [.int th, .int st, .int lo, .ref ob, .int bm.2.1, .int bm.2.2.1, .int bm.2.2.2.1, .int bm.2.2.2.2, .ref ok, .int km.2, .int qm.1, .int qm.2.1, .int qm.2.2.1, .int qm.2.2.2, .int bd, .int ym.1, .int ym.2.1, .int ym.2.2.1, .int ym.2.2.2])), (ob, .inl (cZ, 5200, .inl bm.1)), (ok, .inl (cK, 600, .inl km.1))]) [0, 1, 2] rfl
        have hD9 := hD.sub (ws' := [(om, .inr (3, [.int th, .int st, .int lo, .ref ob, .int bm.2.1, .int bm.2.2.1, .int bm.2.2.2.1, .int bm.2.2.2.2, .ref ok, .int km.2, .int qm.1, .int qm.2.1, .int qm.2.2.1, .int qm.2.2.2, .int bd, .int ym.1, .int ym.2.1, .int ym.2.2.1, .int ym.2.2.2])), (ob, .inl (cZ, 5200, .inl bm.1)), (ok, .inl (cK, 600, .inl km.1))]) [0, 1, 2] (by decide) rfl
        exact W.iret (v := sm ^^^ (-1)) hx hb hr (fun t ht hW => ⟨⟨sm ^^^ (-1), th, rfl, ((plX3_sum_l85_0 st lo n th bm km qm bd ym p0 p1 p2 p3 al sm i c_89 c_148).trans hz), by rw [ht]; exact hP9, hD9⟩, hS.F ht⟩) hS.2.2 dX3_sum_160
      · refine lv_iload hx hb dX3_sum_151 (lv_at hl 6 rfl) ?_
        refine lv_goto (tgt := 160) hx hb dX3_sum_153 (by decide) ?_
        have hP9 := hP.sub (ws' := [(om, .inr (3, [.int th, .int st, .int lo, .ref ob, .int bm.2.1, .int bm.2.2.1, .int bm.2.2.2.1, .int bm.2.2.2.2, .ref ok, .int km.2, .int qm.1, .int qm.2.1, .int qm.2.2.1, .int qm.2.2.2, .int bd, .int ym.1, .int ym.2.1, .int ym.2.2.1, .int ym.2.2.2])), (ob, .inl (cZ, 5200, .inl bm.1)), (ok, .inl (cK, 600, .inl km.1))]) [0, 1, 2] rfl
        have hD9 := hD.sub (ws' := [(om, .inr (3, [.int th, .int st, .int lo, .ref ob, .int bm.2.1, .int bm.2.2.1, .int bm.2.2.2.1, .int bm.2.2.2.2, .ref ok, .int km.2, .int qm.1, .int qm.2.1, .int qm.2.2.1, .int qm.2.2.2, .int bd, .int ym.1, .int ym.2.1, .int ym.2.2.1, .int ym.2.2.2])), (ob, .inl (cZ, 5200, .inl bm.1)), (ok, .inl (cK, 600, .inl km.1))]) [0, 1, 2] (by decide) rfl
        exact W.iret (v := sm) hx hb hr (fun t ht hW => ⟨⟨sm, th, rfl, ((plX3_sum_l85_1 st lo n th bm km qm bd ym p0 p1 p2 p3 al sm i c_89 c_148).trans hz), by rw [ht]; exact hP9, hD9⟩, hS.F ht⟩) hS.2.2 dX3_sum_160
    · refine lv_iload_n hx hb dX3_sum_92 rfl (lv_at hl 1 rfl) ?_
      refine lv_if_eq (tgt := 106) hx hb dX3_sum_93 (by decide) (fun c_93 => ?_) (fun c_93 => ?_)
      · refine lv_aload_n hx hb dX3_sum_106 rfl (lv_at hl 0 rfl) ?_
        refine lv_iload hx hb dX3_sum_107 (lv_at hl 7 rfl) ?_
        have hPc := hP.sub (ws' := [(om, .inr (3, [.int th, .int st, .int lo, .ref ob, .int bm.2.1, .int bm.2.2.1, .int bm.2.2.2.1, .int bm.2.2.2.2, .ref ok, .int km.2, .int qm.1, .int qm.2.1, .int qm.2.2.1, .int qm.2.2.2, .int bd, .int ym.1, .int ym.2.1, .int ym.2.2.1, .int ym.2.2.2])), (ob, .inl (cZ, 5200, .inl bm.1)), (ok, .inl (cK, 600, .inl km.1))]) [0, 1, 2] rfl
        have hKc := hK.sub (tys' := [(cZ, .boolean), (cK, .int)]) [0, 1] rfl
        refine vp_callSi (va_Run.run (va_runV (As := [.int i]) (rest := []) ⟨hx, hb, hml, hown, hts⟩ (mX3_byteOf l dC dI cZ cK om ob ok st lo th bm km qm bd ym i (su_b hW hs c_93 c_89)) (cwV 1 hts (gV wd520 wd521 wd15 wd30 wd522) rfl rfl rfl (by decide +kernel) ⟨Nat.le_of_ble_eq_true rfl, Nat.le_of_ble_eq_true rfl⟩) ⟨fb_ro, va_recv hKc hPc (ci := 3) (q0 := 0) rfl rfl, pre_ro hPc hKc hZ⟩ rfl rfl hl.1 rfl (lv_room (Nat.le_of_ble_eq_true rfl)) dX3_sum_109 ⟨Nat.le_of_ble_eq_true rfl, Nat.le_of_ble_eq_true rfl⟩)) (fun r_1 hw_2 => ?_)
        refine lv_istore (lv' := [(8, .int r_1), (0, .ref om), (1, .int p0), (2, .int p1), (3, .int p2), (4, .int p3), (5, .int al), (6, .int sm), (7, .int i)]) hx hb dX3_sum_112 hl (by decide) rfl (fun ls hl => ?_)
        refine lv_iload_n hx hb dX3_sum_114 rfl (lv_at hl 3 rfl) ?_
        refine lv_bipush (v := 16) hx hb dX3_sum_115 (by decide) ?_
        refine lv_icmp_ne (tgt := 130) hx hb dX3_sum_117 (by decide) (fun c_117 => ?_) (fun c_117 => ?_)
        · refine lv_iload hx hb dX3_sum_130 (lv_at hl 7 rfl) ?_
          refine lv_iload hx hb dX3_sum_132 (lv_at hl 0 rfl) ?_
          refine vp_callSi (va_Run.run (va_runS (As := [.int sm, .int r_1]) (rest := []) ⟨hx, hb, hml, hown, hts⟩ (mX3_sum32 l dC dI sm r_1) (va_cwS 2 hts (gS wd602 wd603 wd30 wd604) rfl rfl rfl (by decide +kernel) ⟨Nat.le_of_ble_eq_true rfl, Nat.le_of_ble_eq_true rfl⟩) ⟨fb_nw, pre_nw hZ⟩ rfl rfl hl.1 rfl (lv_room (Nat.le_of_ble_eq_true rfl)) dX3_sum_134 ⟨Nat.le_of_ble_eq_true rfl, Nat.le_of_ble_eq_true rfl⟩)) (fun r_3 hw_4 => ?_)
          refine lv_istore (lv' := [(6, .int r_3), (8, .int r_1), (0, .ref om), (1, .int p0), (2, .int p1), (3, .int p2), (4, .int p3), (5, .int al), (7, .int i)]) hx hb dX3_sum_137 hl (by decide) rfl (fun ls hl => ?_)
          obtain ⟨i_5, ei_5⟩ : ∃ y : Int32, y = i + 1 := ⟨_, rfl⟩
          refine lv_iinc (v := i_5) (lv' := [(7, .int i_5), (6, .int r_3), (8, .int r_1), (0, .ref om), (1, .int p0), (2, .int p1), (3, .int p2), (4, .int p3), (5, .int al)]) hx hb dX3_sum_139 hl (k := 8) rfl (by rw [ei_5]; rfl) (by decide) rfl (fun ls hl => ?_)
          refine lv_goto (tgt := 85) hx hb dX3_sum_142 (by decide) ?_
          exact ih th bm km qm bd ym p0 p1 p2 p3 al r_3 i_5 (fuel_step2 hf (nle_lt c_89) (by assumption)) hW (su_back hs c_89 (by assumption)) ((plX3_sum_l85_2 st lo n th bm km qm bd ym p0 p1 p2 p3 al sm i c_89 c_93 _ hw_2 c_117 _ hw_4 _ ei_5).trans hz) _ _ (hP.sub (ws' := [(om, .inr (3, [.int th, .int st, .int lo, .ref ob, .int bm.2.1, .int bm.2.2.1, .int bm.2.2.2.1, .int bm.2.2.2.2, .ref ok, .int km.2, .int qm.1, .int qm.2.1, .int qm.2.2.1, .int qm.2.2.2, .int bd, .int ym.1, .int ym.2.1, .int ym.2.2.1, .int ym.2.2.2])), (ob, .inl (cZ, 5200, .inl bm.1)), (ok, .inl (cK, 600, .inl km.1))]) [0, 1, 2] rfl) (hD.sub (ws' := [(om, .inr (3, [.int th, .int st, .int lo, .ref ob, .int bm.2.1, .int bm.2.2.1, .int bm.2.2.2.1, .int bm.2.2.2.2, .ref ok, .int km.2, .int qm.1, .int qm.2.1, .int qm.2.2.1, .int qm.2.2.2, .int bd, .int ym.1, .int ym.2.1, .int ym.2.2.1, .int ym.2.2.2])), (ob, .inl (cZ, 5200, .inl bm.1)), (ok, .inl (cK, 600, .inl km.1))]) [0, 1, 2] (by decide) rfl) hS ls (lv_sub hl [3, 4, 5, 6, 7, 8, 1, 0] rfl)
        · refine lv_iload hx hb dX3_sum_120 (lv_at hl 7 rfl) ?_
          refine lv_iload hx hb dX3_sum_122 (lv_at hl 0 rfl) ?_
          refine vp_callSi (va_Run.run (va_runS (As := [.int sm, .int r_1]) (rest := []) ⟨hx, hb, hml, hown, hts⟩ (mX3_sum16 l dC dI sm r_1) (va_cwS 2 hts (gS wd599 wd600 wd30 wd601) rfl rfl rfl (by decide +kernel) ⟨Nat.le_of_ble_eq_true rfl, Nat.le_of_ble_eq_true rfl⟩) ⟨fb_nw, pre_nw hZ⟩ rfl rfl hl.1 rfl (lv_room (Nat.le_of_ble_eq_true rfl)) dX3_sum_124 ⟨Nat.le_of_ble_eq_true rfl, Nat.le_of_ble_eq_true rfl⟩)) (fun r_6 hw_7 => ?_)
          refine lv_goto (tgt := 137) hx hb dX3_sum_127 (by decide) ?_
          refine lv_istore (lv' := [(6, .int r_6), (8, .int r_1), (0, .ref om), (1, .int p0), (2, .int p1), (3, .int p2), (4, .int p3), (5, .int al), (7, .int i)]) hx hb dX3_sum_137 hl (by decide) rfl (fun ls hl => ?_)
          obtain ⟨i_8, ei_8⟩ : ∃ y : Int32, y = i + 1 := ⟨_, rfl⟩
          refine lv_iinc (v := i_8) (lv' := [(7, .int i_8), (6, .int r_6), (8, .int r_1), (0, .ref om), (1, .int p0), (2, .int p1), (3, .int p2), (4, .int p3), (5, .int al)]) hx hb dX3_sum_139 hl (k := 8) rfl (by rw [ei_8]; rfl) (by decide) rfl (fun ls hl => ?_)
          refine lv_goto (tgt := 85) hx hb dX3_sum_142 (by decide) ?_
          exact ih th bm km qm bd ym p0 p1 p2 p3 al r_6 i_8 (fuel_step2 hf (nle_lt c_89) (by assumption)) hW (su_back hs c_89 (by assumption)) ((plX3_sum_l85_3 st lo n th bm km qm bd ym p0 p1 p2 p3 al sm i c_89 c_93 _ hw_2 c_117 _ hw_7 _ ei_8).trans hz) _ _ (hP.sub (ws' := [(om, .inr (3, [.int th, .int st, .int lo, .ref ob, .int bm.2.1, .int bm.2.2.1, .int bm.2.2.2.1, .int bm.2.2.2.2, .ref ok, .int km.2, .int qm.1, .int qm.2.1, .int qm.2.2.1, .int qm.2.2.2, .int bd, .int ym.1, .int ym.2.1, .int ym.2.2.1, .int ym.2.2.2])), (ob, .inl (cZ, 5200, .inl bm.1)), (ok, .inl (cK, 600, .inl km.1))]) [0, 1, 2] rfl) (hD.sub (ws' := [(om, .inr (3, [.int th, .int st, .int lo, .ref ob, .int bm.2.1, .int bm.2.2.1, .int bm.2.2.2.1, .int bm.2.2.2.2, .ref ok, .int km.2, .int qm.1, .int qm.2.1, .int qm.2.2.1, .int qm.2.2.2, .int bd, .int ym.1, .int ym.2.1, .int ym.2.2.1, .int ym.2.2.2])), (ob, .inl (cZ, 5200, .inl bm.1)), (ok, .inl (cK, 600, .inl km.1))]) [0, 1, 2] (by decide) rfl) hS ls (lv_sub hl [3, 4, 5, 6, 7, 8, 1, 0] rfl)
      · refine lv_aload_n hx hb dX3_sum_96 rfl (lv_at hl 0 rfl) ?_
        refine va_get (D := (dC, dI)) (ci := 3) (v := .ref ok) (C := RX3) (T := TX3) (N := 19) hx hb hts inGX3 hown hK hP 0 rfl rfl 8 (by decide) (hts _ wd445) (fun _ h9 => h9) rfl dX3_sum_97 ?_
        refine lv_iload hx hb dX3_sum_100 (lv_at hl 7 rfl) ?_
        refine va_iald hx hb hK hP 2 1 rfl rfl (su_in hs c_93 c_89) dX3_sum_102 ?_
        refine lv_goto (tgt := 112) hx hb dX3_sum_103 (by decide) ?_
        refine lv_topi (fun x_9 ex_9 => ?_)
        refine lv_istore (lv' := [(8, .int x_9), (0, .ref om), (1, .int p0), (2, .int p1), (3, .int p2), (4, .int p3), (5, .int al), (6, .int sm), (7, .int i)]) hx hb dX3_sum_112 hl (by decide) rfl (fun ls hl => ?_)
        refine lv_iload_n hx hb dX3_sum_114 rfl (lv_at hl 3 rfl) ?_
        refine lv_bipush (v := 16) hx hb dX3_sum_115 (by decide) ?_
        refine lv_icmp_ne (tgt := 130) hx hb dX3_sum_117 (by decide) (fun c_117 => ?_) (fun c_117 => ?_)
        · refine lv_iload hx hb dX3_sum_130 (lv_at hl 7 rfl) ?_
          refine lv_iload hx hb dX3_sum_132 (lv_at hl 0 rfl) ?_
          refine vp_callSi (va_Run.run (va_runS (As := [.int sm, .int x_9]) (rest := []) ⟨hx, hb, hml, hown, hts⟩ (mX3_sum32 l dC dI sm x_9) (va_cwS 2 hts (gS wd602 wd603 wd30 wd604) rfl rfl rfl (by decide +kernel) ⟨Nat.le_of_ble_eq_true rfl, Nat.le_of_ble_eq_true rfl⟩) ⟨fb_nw, pre_nw hZ⟩ rfl rfl hl.1 rfl (lv_room (Nat.le_of_ble_eq_true rfl)) dX3_sum_134 ⟨Nat.le_of_ble_eq_true rfl, Nat.le_of_ble_eq_true rfl⟩)) (fun r_10 hw_11 => ?_)
          refine lv_istore (lv' := [(6, .int r_10), (8, .int x_9), (0, .ref om), (1, .int p0), (2, .int p1), (3, .int p2), (4, .int p3), (5, .int al), (7, .int i)]) hx hb dX3_sum_137 hl (by decide) rfl (fun ls hl => ?_)
          obtain ⟨i_12, ei_12⟩ : ∃ y : Int32, y = i + 1 := ⟨_, rfl⟩
          refine lv_iinc (v := i_12) (lv' := [(7, .int i_12), (6, .int r_10), (8, .int x_9), (0, .ref om), (1, .int p0), (2, .int p1), (3, .int p2), (4, .int p3), (5, .int al)]) hx hb dX3_sum_139 hl (k := 8) rfl (by rw [ei_12]; rfl) (by decide) rfl (fun ls hl => ?_)
          refine lv_goto (tgt := 85) hx hb dX3_sum_142 (by decide) ?_
          exact ih th bm km qm bd ym p0 p1 p2 p3 al r_10 i_12 (fuel_step2 hf (nle_lt c_89) (by assumption)) hW (su_back hs c_89 (by assumption)) ((plX3_sum_l85_4 st lo n th bm km qm bd ym p0 p1 p2 p3 al sm i c_89 c_93 _ ex_9 c_117 _ hw_11 _ ei_12).trans hz) _ _ (hP.sub (ws' := [(om, .inr (3, [.int th, .int st, .int lo, .ref ob, .int bm.2.1, .int bm.2.2.1, .int bm.2.2.2.1, .int bm.2.2.2.2, .ref ok, .int km.2, .int qm.1, .int qm.2.1, .int qm.2.2.1, .int qm.2.2.2, .int bd, .int ym.1, .int ym.2.1, .int ym.2.2.1, .int ym.2.2.2])), (ob, .inl (cZ, 5200, .inl bm.1)), (ok, .inl (cK, 600, .inl km.1))]) [0, 1, 2] rfl) (hD.sub (ws' := [(om, .inr (3, [.int th, .int st, .int lo, .ref ob, .int bm.2.1, .int bm.2.2.1, .int bm.2.2.2.1, .int bm.2.2.2.2, .ref ok, .int km.2, .int qm.1, .int qm.2.1, .int qm.2.2.1, .int qm.2.2.2, .int bd, .int ym.1, .int ym.2.1, .int ym.2.2.1, .int ym.2.2.2])), (ob, .inl (cZ, 5200, .inl bm.1)), (ok, .inl (cK, 600, .inl km.1))]) [0, 1, 2] (by decide) rfl) hS ls (lv_sub hl [3, 4, 5, 6, 7, 8, 1, 0] rfl)
        · refine lv_iload hx hb dX3_sum_120 (lv_at hl 7 rfl) ?_
          refine lv_iload hx hb dX3_sum_122 (lv_at hl 0 rfl) ?_
          refine vp_callSi (va_Run.run (va_runS (As := [.int sm, .int x_9]) (rest := []) ⟨hx, hb, hml, hown, hts⟩ (mX3_sum16 l dC dI sm x_9) (va_cwS 2 hts (gS wd599 wd600 wd30 wd601) rfl rfl rfl (by decide +kernel) ⟨Nat.le_of_ble_eq_true rfl, Nat.le_of_ble_eq_true rfl⟩) ⟨fb_nw, pre_nw hZ⟩ rfl rfl hl.1 rfl (lv_room (Nat.le_of_ble_eq_true rfl)) dX3_sum_124 ⟨Nat.le_of_ble_eq_true rfl, Nat.le_of_ble_eq_true rfl⟩)) (fun r_13 hw_14 => ?_)
          refine lv_goto (tgt := 137) hx hb dX3_sum_127 (by decide) ?_
          refine lv_istore (lv' := [(6, .int r_13), (8, .int x_9), (0, .ref om), (1, .int p0), (2, .int p1), (3, .int p2), (4, .int p3), (5, .int al), (7, .int i)]) hx hb dX3_sum_137 hl (by decide) rfl (fun ls hl => ?_)
          obtain ⟨i_15, ei_15⟩ : ∃ y : Int32, y = i + 1 := ⟨_, rfl⟩
          refine lv_iinc (v := i_15) (lv' := [(7, .int i_15), (6, .int r_13), (8, .int x_9), (0, .ref om), (1, .int p0), (2, .int p1), (3, .int p2), (4, .int p3), (5, .int al)]) hx hb dX3_sum_139 hl (k := 8) rfl (by rw [ei_15]; rfl) (by decide) rfl (fun ls hl => ?_)
          refine lv_goto (tgt := 85) hx hb dX3_sum_142 (by decide) ?_
          exact ih th bm km qm bd ym p0 p1 p2 p3 al r_13 i_15 (fuel_step2 hf (nle_lt c_89) (by assumption)) hW (su_back hs c_89 (by assumption)) ((plX3_sum_l85_5 st lo n th bm km qm bd ym p0 p1 p2 p3 al sm i c_89 c_93 _ ex_9 c_117 _ hw_14 _ ei_15).trans hz) _ _ (hP.sub (ws' := [(om, .inr (3, [.int th, .int st, .int lo, .ref ob, .int bm.2.1, .int bm.2.2.1, .int bm.2.2.2.1, .int bm.2.2.2.2, .ref ok, .int km.2, .int qm.1, .int qm.2.1, .int qm.2.2.1, .int qm.2.2.2, .int bd, .int ym.1, .int ym.2.1, .int ym.2.2.1, .int ym.2.2.2])), (ob, .inl (cZ, 5200, .inl bm.1)), (ok, .inl (cK, 600, .inl km.1))]) [0, 1, 2] rfl) (hD.sub (ws' := [(om, .inr (3, [.int th, .int st, .int lo, .ref ob, .int bm.2.1, .int bm.2.2.1, .int bm.2.2.2.1, .int bm.2.2.2.2, .ref ok, .int km.2, .int qm.1, .int qm.2.1, .int qm.2.2.1, .int qm.2.2.2, .int bd, .int ym.1, .int ym.2.1, .int ym.2.2.1, .int ym.2.2.2])), (ob, .inl (cZ, 5200, .inl bm.1)), (ok, .inl (cK, 600, .inl km.1))]) [0, 1, 2] (by decide) rfl) hS ls (lv_sub hl [3, 4, 5, 6, 7, 8, 1, 0] rfl)
set_option maxHeartbeats 4000000 in
set_option maxRecDepth 100000 in
theorem kX3_sum_56 {p : Program} {l : Launch} {e : Env} {s : State} {m : MethodId} {args : Array Value} {below : List Frame} {meth : Method} {c : Code} {dC : Nat → ClassId} {dI : Nat → Nat → Nat} {cZ cK : ClassId} {om ob ok : Nat} {st : Int32} {lo : Int32} {z : Int32 × Int32} {A : Nat → Prop} (hx : p.tables.exec = Jvm.exec) (hb : c.code = cX3_sum) (hr : meth.sig.returnType = (some .int)) (hml : c.maxLocals = 9) (hown : s.vm.findClass RX3 = some m.cls) (hts : ∀ w ∈ G, w.before args s = true) (hlocks : meth.locks = false) (hA : ∀ q : Nat, s.heap.size ≤ q → A q) (hZ : zOk s) (hK : va_K (dC, dI) vwCl [(cZ, .boolean), (cK, .int)] s) : ∀ (th : Int32) (bm : Bm) (km : Rw) (qm : Tk) (bd : Int32) (ym : Tk) (p0 : Int32) (p1 : Int32) (p2 : Int32) (p3 : Int32) (al : Int32) (v : Int32), (wok bm 400) → (v ≤ 0 → suOk p0 p3 p2) → LX3_sum_56 st lo th bm km qm bd ym p0 p1 p2 p3 al v = z → ∀ (H : Heap) (locs : List Loc), va_P (dC, dI) vwCl [(om, .inr (3, [.int th, .int st, .int lo, .ref ob, .int bm.2.1, .int bm.2.2.1, .int bm.2.2.2.1, .int bm.2.2.2.2, .ref ok, .int km.2, .int qm.1, .int qm.2.1, .int qm.2.2.1, .int qm.2.2.2, .int bd, .int ym.1, .int ym.2.1, .int ym.2.2.1, .int ym.2.2.2])), (ob, .inl (cZ, 5200, .inl bm.1)), (ok, .inl (cK, 600, .inl km.1))] H → va_D A [(om, .inr (3, [.int th, .int st, .int lo, .ref ob, .int bm.2.1, .int bm.2.2.1, .int bm.2.2.2.1, .int bm.2.2.2.2, .ref ok, .int km.2, .int qm.1, .int qm.2.1, .int qm.2.2.1, .int qm.2.2.2, .int bd, .int ym.1, .int ym.2.1, .int ym.2.2.1, .int ym.2.2.2])), (ob, .inl (cZ, 5200, .inl bm.1)), (ok, .inl (cK, 600, .inl km.1))] → va_S A s.heap H locs → ∀ (ls : Array Slot), lv_has ls 9 [(0, .ref om), (1, .int p0), (2, .int p1), (3, .int p2), (4, .int p3), (5, .int al)] → W p l e (headSpec (Cond.code yX3_sum cX3_sum 9 (some .int) :: G) ({ frames := 1, cells := 0, slots := 0, locals := 25 } : Room)).room s m args below meth c H locs 0 0 (MQ below (va_Qi (fun (r : Int32) (u : Int32) => (r, u) = z) (fun (u : Int32) (t : State) => va_P (dC, dI) vwCl [(om, .inr (3, [.int u, .int st, .int lo, .ref ob, .int bm.2.1, .int bm.2.2.1, .int bm.2.2.2.1, .int bm.2.2.2.2, .ref ok, .int km.2, .int qm.1, .int qm.2.1, .int qm.2.2.1, .int qm.2.2.2, .int bd, .int ym.1, .int ym.2.1, .int ym.2.2.1, .int ym.2.2.2])), (ob, .inl (cZ, 5200, .inl bm.1)), (ok, .inl (cK, 600, .inl km.1))] t.heap ∧ va_D A [(om, .inr (3, [.int u, .int st, .int lo, .ref ob, .int bm.2.1, .int bm.2.2.1, .int bm.2.2.2.1, .int bm.2.2.2.2, .ref ok, .int km.2, .int qm.1, .int qm.2.1, .int qm.2.2.1, .int qm.2.2.2, .int bd, .int ym.1, .int ym.2.1, .int ym.2.2.1, .int ym.2.2.2])), (ob, .inl (cZ, 5200, .inl bm.1)), (ok, .inl (cK, 600, .inl km.1))]) A) args s 0 0 A) (F0 m 56 ls [.int v, .ref om]) := by
  intro th bm km qm bd ym p0 p1 p2 p3 al v hW hv hz H locs hP hD hS ls hl
  refine va_put (D := (dC, dI)) (ci := 3) (v := .int v) (ty := .int) (C := RX3) (T := TX3) (N := 19) hx hb hts inGX3 tyX3 tyX3_ok nmX3 hown hK hP hD hS 0 rfl rfl 0 (by decide) (hts _ wd437) (fun _ h9 => h9) rfl (by decide +kernel) rfl rfl (Nat.le_of_ble_eq_true rfl) dX3_sum_56 (fun H locs hP hD hS => ?_)
  have hP : va_P (dC, dI) vwCl [(om, .inr (3, [.int v, .int st, .int lo, .ref ob, .int bm.2.1, .int bm.2.2.1, .int bm.2.2.2.1, .int bm.2.2.2.2, .ref ok, .int km.2, .int qm.1, .int qm.2.1, .int qm.2.2.1, .int qm.2.2.2, .int bd, .int ym.1, .int ym.2.1, .int ym.2.2.1, .int ym.2.2.2])), (ob, .inl (cZ, 5200, .inl bm.1)), (ok, .inl (cK, 600, .inl km.1))] H := hP
  have hD : va_D A [(om, .inr (3, [.int v, .int st, .int lo, .ref ob, .int bm.2.1, .int bm.2.2.1, .int bm.2.2.2.1, .int bm.2.2.2.2, .ref ok, .int km.2, .int qm.1, .int qm.2.1, .int qm.2.2.1, .int qm.2.2.2, .int bd, .int ym.1, .int ym.2.1, .int ym.2.2.1, .int ym.2.2.2])), (ob, .inl (cZ, 5200, .inl bm.1)), (ok, .inl (cK, 600, .inl km.1))] := hD
  refine lv_aload_n hx hb dX3_sum_59 rfl (lv_at hl 0 rfl) ?_
  refine va_get (D := (dC, dI)) (ci := 3) (v := .int v) (C := RX3) (T := TX3) (N := 19) hx hb hts inGX3 hown hK hP 0 rfl rfl 0 (by decide) (hts _ wd437) (fun _ h9 => h9) rfl dX3_sum_60 ?_
  refine lv_if_le (tgt := 68) hx hb dX3_sum_63 (by decide) (fun c_63 => ?_) (fun c_63 => ?_)
  · refine lv_iload_n hx hb dX3_sum_68 rfl (lv_at hl 2 rfl) ?_
    refine lv_bipush (v := 16) hx hb dX3_sum_69 (by decide) ?_
    refine lv_icmp_ne (tgt := 79) hx hb dX3_sum_71 (by decide) (fun c_71 => ?_) (fun c_71 => ?_)
    · refine lv_iconst (v := (-1)) hx hb dX3_sum_79 (by decide) ?_
      refine lv_istore (lv' := [(6, .int (-1)), (0, .ref om), (1, .int p0), (2, .int p1), (3, .int p2), (4, .int p3), (5, .int al)]) hx hb dX3_sum_80 hl (by decide) rfl (fun ls hl => ?_)
      refine lv_iload_n hx hb dX3_sum_82 rfl (lv_at hl 4 rfl) ?_
      refine lv_istore (lv' := [(7, .int p2), (6, .int (-1)), (0, .ref om), (1, .int p0), (2, .int p1), (3, .int p2), (4, .int p3), (5, .int al)]) hx hb dX3_sum_83 hl (by decide) rfl (fun ls hl => ?_)
      exact kX3_sum_85 hx hb hr hml hown hts hlocks hA hZ hK (fz p2 p3) v bm km qm bd ym p0 p1 p2 p3 al (-1) p2 (fz_ok _ _) hW (hv c_63) ((plX3_sum_l56_0 st lo th bm km qm bd ym p0 p1 p2 p3 al v c_63 c_71).trans hz) _ _ (hP.sub (ws' := [(om, .inr (3, [.int v, .int st, .int lo, .ref ob, .int bm.2.1, .int bm.2.2.1, .int bm.2.2.2.1, .int bm.2.2.2.2, .ref ok, .int km.2, .int qm.1, .int qm.2.1, .int qm.2.2.1, .int qm.2.2.2, .int bd, .int ym.1, .int ym.2.1, .int ym.2.2.1, .int ym.2.2.2])), (ob, .inl (cZ, 5200, .inl bm.1)), (ok, .inl (cK, 600, .inl km.1))]) [0, 1, 2] rfl) (hD.sub (ws' := [(om, .inr (3, [.int v, .int st, .int lo, .ref ob, .int bm.2.1, .int bm.2.2.1, .int bm.2.2.2.1, .int bm.2.2.2.2, .ref ok, .int km.2, .int qm.1, .int qm.2.1, .int qm.2.2.1, .int qm.2.2.2, .int bd, .int ym.1, .int ym.2.1, .int ym.2.2.1, .int ym.2.2.2])), (ob, .inl (cZ, 5200, .inl bm.1)), (ok, .inl (cK, 600, .inl km.1))]) [0, 1, 2] (by decide) rfl) hS ls (lv_sub hl [2, 3, 4, 5, 6, 7, 1, 0] rfl)
    · refine lv_ldc (v := 65535) hx hb hown (hts _ wd598) dX3_sum_74 ?_
      refine lv_goto (tgt := 80) hx hb dX3_sum_76 (by decide) ?_
      refine lv_istore (lv' := [(6, .int 65535), (0, .ref om), (1, .int p0), (2, .int p1), (3, .int p2), (4, .int p3), (5, .int al)]) hx hb dX3_sum_80 hl (by decide) rfl (fun ls hl => ?_)
      refine lv_iload_n hx hb dX3_sum_82 rfl (lv_at hl 4 rfl) ?_
      refine lv_istore (lv' := [(7, .int p2), (6, .int 65535), (0, .ref om), (1, .int p0), (2, .int p1), (3, .int p2), (4, .int p3), (5, .int al)]) hx hb dX3_sum_83 hl (by decide) rfl (fun ls hl => ?_)
      exact kX3_sum_85 hx hb hr hml hown hts hlocks hA hZ hK (fz p2 p3) v bm km qm bd ym p0 p1 p2 p3 al 65535 p2 (fz_ok _ _) hW (hv c_63) ((plX3_sum_l56_1 st lo th bm km qm bd ym p0 p1 p2 p3 al v c_63 c_71).trans hz) _ _ (hP.sub (ws' := [(om, .inr (3, [.int v, .int st, .int lo, .ref ob, .int bm.2.1, .int bm.2.2.1, .int bm.2.2.2.1, .int bm.2.2.2.2, .ref ok, .int km.2, .int qm.1, .int qm.2.1, .int qm.2.2.1, .int qm.2.2.2, .int bd, .int ym.1, .int ym.2.1, .int ym.2.2.1, .int ym.2.2.2])), (ob, .inl (cZ, 5200, .inl bm.1)), (ok, .inl (cK, 600, .inl km.1))]) [0, 1, 2] rfl) (hD.sub (ws' := [(om, .inr (3, [.int v, .int st, .int lo, .ref ob, .int bm.2.1, .int bm.2.2.1, .int bm.2.2.2.1, .int bm.2.2.2.2, .ref ok, .int km.2, .int qm.1, .int qm.2.1, .int qm.2.2.1, .int qm.2.2.2, .int bd, .int ym.1, .int ym.2.1, .int ym.2.2.1, .int ym.2.2.2])), (ob, .inl (cZ, 5200, .inl bm.1)), (ok, .inl (cK, 600, .inl km.1))]) [0, 1, 2] (by decide) rfl) hS ls (lv_sub hl [2, 3, 4, 5, 6, 7, 1, 0] rfl)
  · refine lv_iconst (v := 0) hx hb dX3_sum_66 (by decide) ?_
    have hP9 := hP.sub (ws' := [(om, .inr (3, [.int v, .int st, .int lo, .ref ob, .int bm.2.1, .int bm.2.2.1, .int bm.2.2.2.1, .int bm.2.2.2.2, .ref ok, .int km.2, .int qm.1, .int qm.2.1, .int qm.2.2.1, .int qm.2.2.2, .int bd, .int ym.1, .int ym.2.1, .int ym.2.2.1, .int ym.2.2.2])), (ob, .inl (cZ, 5200, .inl bm.1)), (ok, .inl (cK, 600, .inl km.1))]) [0, 1, 2] rfl
    have hD9 := hD.sub (ws' := [(om, .inr (3, [.int v, .int st, .int lo, .ref ob, .int bm.2.1, .int bm.2.2.1, .int bm.2.2.2.1, .int bm.2.2.2.2, .ref ok, .int km.2, .int qm.1, .int qm.2.1, .int qm.2.2.1, .int qm.2.2.2, .int bd, .int ym.1, .int ym.2.1, .int ym.2.2.1, .int ym.2.2.2])), (ob, .inl (cZ, 5200, .inl bm.1)), (ok, .inl (cK, 600, .inl km.1))]) [0, 1, 2] (by decide) rfl
    exact W.iret (v := 0) hx hb hr (fun t ht hW => ⟨⟨0, v, rfl, ((plX3_sum_l56_2 st lo th bm km qm bd ym p0 p1 p2 p3 al v c_63).trans hz), by rw [ht]; exact hP9, hD9⟩, hS.F ht⟩) hS.2.2 dX3_sum_67
set_option maxHeartbeats 4000000 in
set_option maxRecDepth 100000 in
theorem mX3_sum (l : Launch) (dC : Nat → ClassId) (dI : Nat → Nat → Nat) (cZ cK : ClassId) (om ob ok : Nat) (sz : Nat) (st : Int32) (lo : Int32) (th : Int32) (bm : Bm) (km : Rw) (qm : Tk) (bd : Int32) (ym : Tk) (p0 : Int32) (p1 : Int32) (p2 : Int32) (p3 : Int32) (hW : wok bm 400) (hC : cOk km) : Met l yX3_sum (Cond.code yX3_sum cX3_sum 9 (some .int) :: G) ({ frames := 1, cells := 0, slots := 0, locals := 25 } : Room) (va_Pc [.ref om, .int p0, .int p1, .int p2, .int p3] (fun U => U.heap.size = sz ∧ va_P (dC, dI) vwCl [(om, .inr (3, [.int th, .int st, .int lo, .ref ob, .int bm.2.1, .int bm.2.2.1, .int bm.2.2.2.1, .int bm.2.2.2.2, .ref ok, .int km.2, .int qm.1, .int qm.2.1, .int qm.2.2.1, .int qm.2.2.2, .int bd, .int ym.1, .int ym.2.1, .int ym.2.2.1, .int ym.2.2.2])), (ob, .inl (cZ, 5200, .inl bm.1)), (ok, .inl (cK, 600, .inl km.1))] U.heap ∧ va_K (dC, dI) vwCl [(cZ, .boolean), (cK, .int)] U ∧ va_D (fun _ => True) [(om, .inr (3, [.int th, .int st, .int lo, .ref ob, .int bm.2.1, .int bm.2.2.1, .int bm.2.2.2.1, .int bm.2.2.2.2, .ref ok, .int km.2, .int qm.1, .int qm.2.1, .int qm.2.2.1, .int qm.2.2.2, .int bd, .int ym.1, .int ym.2.1, .int ym.2.2.1, .int ym.2.2.2])), (ob, .inl (cZ, 5200, .inl bm.1)), (ok, .inl (cK, 600, .inl km.1))] ∧ zOk U)) (va_Qi (fun (r : Int32) (u : Int32) => (r, u) = (FX3_sum st lo th bm km qm bd ym p0 p1 p2 p3)) (fun (u : Int32) (t : State) => va_P (dC, dI) vwCl [(om, .inr (3, [.int u, .int st, .int lo, .ref ob, .int bm.2.1, .int bm.2.2.1, .int bm.2.2.2.1, .int bm.2.2.2.2, .ref ok, .int km.2, .int qm.1, .int qm.2.1, .int qm.2.2.1, .int qm.2.2.2, .int bd, .int ym.1, .int ym.2.1, .int ym.2.2.1, .int ym.2.2.2])), (ob, .inl (cZ, 5200, .inl bm.1)), (ok, .inl (cK, 600, .inl km.1))] t.heap ∧ va_D (va_A [(om, .inr (3, [.int th, .int st, .int lo, .ref ob, .int bm.2.1, .int bm.2.2.1, .int bm.2.2.2.1, .int bm.2.2.2.2, .ref ok, .int km.2, .int qm.1, .int qm.2.1, .int qm.2.2.1, .int qm.2.2.2, .int bd, .int ym.1, .int ym.2.1, .int ym.2.2.1, .int ym.2.2.2])), (ob, .inl (cZ, 5200, .inl bm.1)), (ok, .inl (cK, 600, .inl km.1))] sz) [(om, .inr (3, [.int u, .int st, .int lo, .ref ob, .int bm.2.1, .int bm.2.2.1, .int bm.2.2.2.1, .int bm.2.2.2.2, .ref ok, .int km.2, .int qm.1, .int qm.2.1, .int qm.2.2.1, .int qm.2.2.2, .int bd, .int ym.1, .int ym.2.1, .int ym.2.2.1, .int ym.2.2.2])), (ob, .inl (cZ, 5200, .inl bm.1)), (ok, .inl (cK, 600, .inl km.1))]) (va_A [(om, .inr (3, [.int th, .int st, .int lo, .ref ob, .int bm.2.1, .int bm.2.2.1, .int bm.2.2.2.1, .int bm.2.2.2.2, .ref ok, .int km.2, .int qm.1, .int qm.2.1, .int qm.2.2.1, .int qm.2.2.2, .int bd, .int ym.1, .int ym.2.1, .int ym.2.2.1, .int ym.2.2.2])), (ob, .inl (cZ, 5200, .inl bm.1)), (ok, .inl (cK, 600, .inl km.1))] sz)) 0 0 (va_A [(om, .inr (3, [.int th, .int st, .int lo, .ref ob, .int bm.2.1, .int bm.2.2.1, .int bm.2.2.2.1, .int bm.2.2.2.2, .ref ok, .int km.2, .int qm.1, .int qm.2.1, .int qm.2.2.1, .int qm.2.2.2, .int bd, .int ym.1, .int ym.2.1, .int ym.2.2.1, .int ym.2.2.2])), (ob, .inl (cZ, 5200, .inl bm.1)), (ok, .inl (cK, 600, .inl km.1))] sz) := by
  refine Met.ofW (cc := cX3_sum) (maxL := 9) (ret := (some .int)) (by decide) rfl ?_
  intro p e s m args below meth c s₁ B hml hv
  obtain ⟨rfl, hsz, hP, hK, hD0, hZ⟩ := hv
  have hx := B.exec
  have hb := B.bytes
  have hr := B.returns
  have hts : ∀ w ∈ G, w.before [.ref om, .int p0, .int p1, .int p2, .int p3].toArray s = true := fun w h => atoms_spec (ws := (Cond.code yX3_sum cX3_sum 9 (some .int) :: G)) B.pre w (List.mem_cons_of_mem _ h)
  have hown : s.vm.findClass RX3 = some m.cls := findClass_of_methodNamed B.named
  have hlocks := B.notSynchronized
  subst hsz
  have hD := hD0.self (sz := s.heap.size)
  generalize hAe : va_A [(om, .inr (3, [.int th, .int st, .int lo, .ref ob, .int bm.2.1, .int bm.2.2.1, .int bm.2.2.2.1, .int bm.2.2.2.2, .ref ok, .int km.2, .int qm.1, .int qm.2.1, .int qm.2.2.1, .int qm.2.2.2, .int bd, .int ym.1, .int ym.2.1, .int ym.2.2.1, .int ym.2.2.2])), (ob, .inl (cZ, 5200, .inl bm.1)), (ok, .inl (cK, 600, .inl km.1))] s.heap.size = A at hD ⊢
  have hA : ∀ q : Nat, s.heap.size ≤ q → A q := fun q h => by rw [← hAe]; exact Or.inr h
  have hS : va_S A s.heap s.heap [] := va_S.rf
  have hP : va_P (dC, dI) vwCl [(om, .inr (3, [.int th, .int st, .int lo, .ref ob, .int bm.2.1, .int bm.2.2.1, .int bm.2.2.2.1, .int bm.2.2.2.2, .ref ok, .int km.2, .int qm.1, .int qm.2.1, .int qm.2.2.1, .int qm.2.2.2, .int bd, .int ym.1, .int ym.2.1, .int ym.2.2.1, .int ym.2.2.2])), (ob, .inl (cZ, 5200, .inl bm.1)), (ok, .inl (cK, 600, .inl km.1))] s.heap := hP
  have hl := lv_entry ([.ref om, .int p0, .int p1, .int p2, .int p3]) (n := 9) (Nat.le_of_ble_eq_true rfl)
  rw [lg_entry_eq]
  generalize (lg_sl ([.ref om, .int p0, .int p1, .int p2, .int p3]) ++ List.replicate (9 - (lg_sl ([.ref om, .int p0, .int p1, .int p2, .int p3])).length) Slot.unset).toArray = ls at hl ⊢
  have hl : lv_has ls 9 [(0, .ref om), (1, .int p0), (2, .int p1), (3, .int p2), (4, .int p3)] := hl
  refine lv_iload_n hx hb dX3_sum_0 rfl (lv_at hl 1 rfl) ?_
  refine lv_if_eq (tgt := 11) hx hb dX3_sum_1 (by decide) (fun c_1 => ?_) (fun c_1 => ?_)
  · refine lv_aload_n hx hb dX3_sum_11 rfl (lv_at hl 0 rfl) ?_
    have hPc := hP.sub (ws' := [(om, .inr (3, [.int th, .int st, .int lo, .ref ob, .int bm.2.1, .int bm.2.2.1, .int bm.2.2.2.1, .int bm.2.2.2.2, .ref ok, .int km.2, .int qm.1, .int qm.2.1, .int qm.2.2.1, .int qm.2.2.2, .int bd, .int ym.1, .int ym.2.1, .int ym.2.2.1, .int ym.2.2.2])), (ob, .inl (cZ, 5200, .inl bm.1)), (ok, .inl (cK, 600, .inl km.1))]) [0, 1, 2] rfl
    have hKc := hK.sub (tys' := [(cZ, .boolean), (cK, .int)]) [0, 1] rfl
    refine vp_callSi (va_Run.run (va_runV (As := []) (rest := []) ⟨hx, hb, hml, hown, hts⟩ (mX3_bytesWritten l dC dI cZ cK om ob ok st lo th bm km qm bd ym) (cwV 0 hts (gV wd544 wd545 wd17 wd30 wd546) rfl rfl rfl (by decide +kernel) ⟨Nat.le_of_ble_eq_true rfl, Nat.le_of_ble_eq_true rfl⟩) ⟨fb_ro, va_recv hKc hPc (ci := 3) (q0 := 0) rfl rfl, pre_ro hPc hKc hZ⟩ rfl rfl hl.1 rfl (lv_room (Nat.le_of_ble_eq_true rfl)) dX3_sum_12 ⟨Nat.le_of_ble_eq_true rfl, Nat.le_of_ble_eq_true rfl⟩)) (fun r_1 hw_2 => ?_)
    refine lv_istore (lv' := [(5, .int r_1), (0, .ref om), (1, .int p0), (2, .int p1), (3, .int p2), (4, .int p3)]) hx hb dX3_sum_15 hl (by decide) rfl (fun ls hl => ?_)
    refine lv_aload_n hx hb dX3_sum_17 rfl (lv_at hl 1 rfl) ?_
    refine lv_iload_n hx hb dX3_sum_18 rfl (lv_at hl 3 rfl) ?_
    refine lv_bipush (v := 16) hx hb dX3_sum_19 (by decide) ?_
    refine lv_icmp_eq (tgt := 34) hx hb dX3_sum_21 (by decide) (fun c_21 => ?_) (fun c_21 => ?_)
    · refine lv_iload_n hx hb dX3_sum_34 rfl (lv_at hl 4 rfl) ?_
      refine lv_if_lt (tgt := 51) hx hb dX3_sum_35 (by decide) (fun c_35 => ?_) (fun c_35 => ?_)
      · refine lv_iconst (v := 2) hx hb dX3_sum_51 (by decide) ?_
        refine lv_goto (tgt := 56) hx hb dX3_sum_52 (by decide) ?_
        exact kX3_sum_56 hx hb hr hml hown hts hlocks hA hZ hK  th bm km qm bd ym p0 p1 p2 p3 r_1 2 hW (by first | exact fun h => absurd h (by decide) | exact fun _ => su_of1 hC c_1 c_35 c_48 | exact fun _ => su_of2 hW c_1 (by assumption) c_35 c_48) (plX3_sum_0 st lo th bm km qm bd ym p0 p1 p2 p3 c_1 _ hw_2 c_21 c_35) _ _ (hP.sub (ws' := [(om, .inr (3, [.int th, .int st, .int lo, .ref ob, .int bm.2.1, .int bm.2.2.1, .int bm.2.2.2.1, .int bm.2.2.2.2, .ref ok, .int km.2, .int qm.1, .int qm.2.1, .int qm.2.2.1, .int qm.2.2.2, .int bd, .int ym.1, .int ym.2.1, .int ym.2.2.1, .int ym.2.2.2])), (ob, .inl (cZ, 5200, .inl bm.1)), (ok, .inl (cK, 600, .inl km.1))]) [0, 1, 2] rfl) (hD.sub (ws' := [(om, .inr (3, [.int th, .int st, .int lo, .ref ob, .int bm.2.1, .int bm.2.2.1, .int bm.2.2.2.1, .int bm.2.2.2.2, .ref ok, .int km.2, .int qm.1, .int qm.2.1, .int qm.2.2.1, .int qm.2.2.2, .int bd, .int ym.1, .int ym.2.1, .int ym.2.2.1, .int ym.2.2.2])), (ob, .inl (cZ, 5200, .inl bm.1)), (ok, .inl (cK, 600, .inl km.1))]) [0, 1, 2] (by decide) rfl) hS ls (lv_sub hl [1, 2, 3, 4, 5, 0] rfl)
      · refine lv_iload_n hx hb dX3_sum_38 rfl (lv_at hl 4 rfl) ?_
        refine lv_iload hx hb dX3_sum_39 (lv_at hl 5 rfl) ?_
        refine lv_icmp_gt (tgt := 51) hx hb dX3_sum_41 (by decide) (fun c_41 => ?_) (fun c_41 => ?_)
        · refine lv_iconst (v := 2) hx hb dX3_sum_51 (by decide) ?_
          refine lv_goto (tgt := 56) hx hb dX3_sum_52 (by decide) ?_
          exact kX3_sum_56 hx hb hr hml hown hts hlocks hA hZ hK  th bm km qm bd ym p0 p1 p2 p3 r_1 2 hW (by first | exact fun h => absurd h (by decide) | exact fun _ => su_of1 hC c_1 c_35 c_48 | exact fun _ => su_of2 hW c_1 (by assumption) c_35 c_48) (plX3_sum_1 st lo th bm km qm bd ym p0 p1 p2 p3 c_1 _ hw_2 c_21 c_35 c_41) _ _ (hP.sub (ws' := [(om, .inr (3, [.int th, .int st, .int lo, .ref ob, .int bm.2.1, .int bm.2.2.1, .int bm.2.2.2.1, .int bm.2.2.2.2, .ref ok, .int km.2, .int qm.1, .int qm.2.1, .int qm.2.2.1, .int qm.2.2.2, .int bd, .int ym.1, .int ym.2.1, .int ym.2.2.1, .int ym.2.2.2])), (ob, .inl (cZ, 5200, .inl bm.1)), (ok, .inl (cK, 600, .inl km.1))]) [0, 1, 2] rfl) (hD.sub (ws' := [(om, .inr (3, [.int th, .int st, .int lo, .ref ob, .int bm.2.1, .int bm.2.2.1, .int bm.2.2.2.1, .int bm.2.2.2.2, .ref ok, .int km.2, .int qm.1, .int qm.2.1, .int qm.2.2.1, .int qm.2.2.2, .int bd, .int ym.1, .int ym.2.1, .int ym.2.2.1, .int ym.2.2.2])), (ob, .inl (cZ, 5200, .inl bm.1)), (ok, .inl (cK, 600, .inl km.1))]) [0, 1, 2] (by decide) rfl) hS ls (lv_sub hl [1, 2, 3, 4, 5, 0] rfl)
        · refine lv_iload hx hb dX3_sum_44 (lv_at hl 5 rfl) ?_
          refine lv_iload hx hb dX3_sum_46 (lv_at hl 0 rfl) ?_
          refine lv_icmp_le (tgt := 55) hx hb dX3_sum_48 (by decide) (fun c_48 => ?_) (fun c_48 => ?_)
          · refine lv_iconst (v := 0) hx hb dX3_sum_55 (by decide) ?_
            exact kX3_sum_56 hx hb hr hml hown hts hlocks hA hZ hK  th bm km qm bd ym p0 p1 p2 p3 r_1 0 hW (by first | exact fun h => absurd h (by decide) | exact fun _ => su_of1 hC c_1 c_35 c_48 | exact fun _ => su_of2 hW c_1 (by assumption) c_35 c_48) (plX3_sum_2 st lo th bm km qm bd ym p0 p1 p2 p3 c_1 _ hw_2 c_21 c_35 c_41 c_48) _ _ (hP.sub (ws' := [(om, .inr (3, [.int th, .int st, .int lo, .ref ob, .int bm.2.1, .int bm.2.2.1, .int bm.2.2.2.1, .int bm.2.2.2.2, .ref ok, .int km.2, .int qm.1, .int qm.2.1, .int qm.2.2.1, .int qm.2.2.2, .int bd, .int ym.1, .int ym.2.1, .int ym.2.2.1, .int ym.2.2.2])), (ob, .inl (cZ, 5200, .inl bm.1)), (ok, .inl (cK, 600, .inl km.1))]) [0, 1, 2] rfl) (hD.sub (ws' := [(om, .inr (3, [.int th, .int st, .int lo, .ref ob, .int bm.2.1, .int bm.2.2.1, .int bm.2.2.2.1, .int bm.2.2.2.2, .ref ok, .int km.2, .int qm.1, .int qm.2.1, .int qm.2.2.1, .int qm.2.2.2, .int bd, .int ym.1, .int ym.2.1, .int ym.2.2.1, .int ym.2.2.2])), (ob, .inl (cZ, 5200, .inl bm.1)), (ok, .inl (cK, 600, .inl km.1))]) [0, 1, 2] (by decide) rfl) hS ls (lv_sub hl [1, 2, 3, 4, 5, 0] rfl)
          · refine lv_iconst (v := 2) hx hb dX3_sum_51 (by decide) ?_
            refine lv_goto (tgt := 56) hx hb dX3_sum_52 (by decide) ?_
            exact kX3_sum_56 hx hb hr hml hown hts hlocks hA hZ hK  th bm km qm bd ym p0 p1 p2 p3 r_1 2 hW (by first | exact fun h => absurd h (by decide) | exact fun _ => su_of1 hC c_1 c_35 c_48 | exact fun _ => su_of2 hW c_1 (by assumption) c_35 c_48) (plX3_sum_3 st lo th bm km qm bd ym p0 p1 p2 p3 c_1 _ hw_2 c_21 c_35 c_41 c_48) _ _ (hP.sub (ws' := [(om, .inr (3, [.int th, .int st, .int lo, .ref ob, .int bm.2.1, .int bm.2.2.1, .int bm.2.2.2.1, .int bm.2.2.2.2, .ref ok, .int km.2, .int qm.1, .int qm.2.1, .int qm.2.2.1, .int qm.2.2.2, .int bd, .int ym.1, .int ym.2.1, .int ym.2.2.1, .int ym.2.2.2])), (ob, .inl (cZ, 5200, .inl bm.1)), (ok, .inl (cK, 600, .inl km.1))]) [0, 1, 2] rfl) (hD.sub (ws' := [(om, .inr (3, [.int th, .int st, .int lo, .ref ob, .int bm.2.1, .int bm.2.2.1, .int bm.2.2.2.1, .int bm.2.2.2.2, .ref ok, .int km.2, .int qm.1, .int qm.2.1, .int qm.2.2.1, .int qm.2.2.2, .int bd, .int ym.1, .int ym.2.1, .int ym.2.2.1, .int ym.2.2.2])), (ob, .inl (cZ, 5200, .inl bm.1)), (ok, .inl (cK, 600, .inl km.1))]) [0, 1, 2] (by decide) rfl) hS ls (lv_sub hl [1, 2, 3, 4, 5, 0] rfl)
    · refine lv_iload_n hx hb dX3_sum_24 rfl (lv_at hl 3 rfl) ?_
      refine lv_bipush (v := 32) hx hb dX3_sum_25 (by decide) ?_
      refine lv_icmp_eq (tgt := 34) hx hb dX3_sum_27 (by decide) (fun c_27 => ?_) (fun c_27 => ?_)
      · refine lv_iload_n hx hb dX3_sum_34 rfl (lv_at hl 4 rfl) ?_
        refine lv_if_lt (tgt := 51) hx hb dX3_sum_35 (by decide) (fun c_35 => ?_) (fun c_35 => ?_)
        · refine lv_iconst (v := 2) hx hb dX3_sum_51 (by decide) ?_
          refine lv_goto (tgt := 56) hx hb dX3_sum_52 (by decide) ?_
          exact kX3_sum_56 hx hb hr hml hown hts hlocks hA hZ hK  th bm km qm bd ym p0 p1 p2 p3 r_1 2 hW (by first | exact fun h => absurd h (by decide) | exact fun _ => su_of1 hC c_1 c_35 c_48 | exact fun _ => su_of2 hW c_1 (by assumption) c_35 c_48) (plX3_sum_4 st lo th bm km qm bd ym p0 p1 p2 p3 c_1 _ hw_2 c_21 c_27 c_35) _ _ (hP.sub (ws' := [(om, .inr (3, [.int th, .int st, .int lo, .ref ob, .int bm.2.1, .int bm.2.2.1, .int bm.2.2.2.1, .int bm.2.2.2.2, .ref ok, .int km.2, .int qm.1, .int qm.2.1, .int qm.2.2.1, .int qm.2.2.2, .int bd, .int ym.1, .int ym.2.1, .int ym.2.2.1, .int ym.2.2.2])), (ob, .inl (cZ, 5200, .inl bm.1)), (ok, .inl (cK, 600, .inl km.1))]) [0, 1, 2] rfl) (hD.sub (ws' := [(om, .inr (3, [.int th, .int st, .int lo, .ref ob, .int bm.2.1, .int bm.2.2.1, .int bm.2.2.2.1, .int bm.2.2.2.2, .ref ok, .int km.2, .int qm.1, .int qm.2.1, .int qm.2.2.1, .int qm.2.2.2, .int bd, .int ym.1, .int ym.2.1, .int ym.2.2.1, .int ym.2.2.2])), (ob, .inl (cZ, 5200, .inl bm.1)), (ok, .inl (cK, 600, .inl km.1))]) [0, 1, 2] (by decide) rfl) hS ls (lv_sub hl [1, 2, 3, 4, 5, 0] rfl)
        · refine lv_iload_n hx hb dX3_sum_38 rfl (lv_at hl 4 rfl) ?_
          refine lv_iload hx hb dX3_sum_39 (lv_at hl 5 rfl) ?_
          refine lv_icmp_gt (tgt := 51) hx hb dX3_sum_41 (by decide) (fun c_41 => ?_) (fun c_41 => ?_)
          · refine lv_iconst (v := 2) hx hb dX3_sum_51 (by decide) ?_
            refine lv_goto (tgt := 56) hx hb dX3_sum_52 (by decide) ?_
            exact kX3_sum_56 hx hb hr hml hown hts hlocks hA hZ hK  th bm km qm bd ym p0 p1 p2 p3 r_1 2 hW (by first | exact fun h => absurd h (by decide) | exact fun _ => su_of1 hC c_1 c_35 c_48 | exact fun _ => su_of2 hW c_1 (by assumption) c_35 c_48) (plX3_sum_5 st lo th bm km qm bd ym p0 p1 p2 p3 c_1 _ hw_2 c_21 c_27 c_35 c_41) _ _ (hP.sub (ws' := [(om, .inr (3, [.int th, .int st, .int lo, .ref ob, .int bm.2.1, .int bm.2.2.1, .int bm.2.2.2.1, .int bm.2.2.2.2, .ref ok, .int km.2, .int qm.1, .int qm.2.1, .int qm.2.2.1, .int qm.2.2.2, .int bd, .int ym.1, .int ym.2.1, .int ym.2.2.1, .int ym.2.2.2])), (ob, .inl (cZ, 5200, .inl bm.1)), (ok, .inl (cK, 600, .inl km.1))]) [0, 1, 2] rfl) (hD.sub (ws' := [(om, .inr (3, [.int th, .int st, .int lo, .ref ob, .int bm.2.1, .int bm.2.2.1, .int bm.2.2.2.1, .int bm.2.2.2.2, .ref ok, .int km.2, .int qm.1, .int qm.2.1, .int qm.2.2.1, .int qm.2.2.2, .int bd, .int ym.1, .int ym.2.1, .int ym.2.2.1, .int ym.2.2.2])), (ob, .inl (cZ, 5200, .inl bm.1)), (ok, .inl (cK, 600, .inl km.1))]) [0, 1, 2] (by decide) rfl) hS ls (lv_sub hl [1, 2, 3, 4, 5, 0] rfl)
          · refine lv_iload hx hb dX3_sum_44 (lv_at hl 5 rfl) ?_
            refine lv_iload hx hb dX3_sum_46 (lv_at hl 0 rfl) ?_
            refine lv_icmp_le (tgt := 55) hx hb dX3_sum_48 (by decide) (fun c_48 => ?_) (fun c_48 => ?_)
            · refine lv_iconst (v := 0) hx hb dX3_sum_55 (by decide) ?_
              exact kX3_sum_56 hx hb hr hml hown hts hlocks hA hZ hK  th bm km qm bd ym p0 p1 p2 p3 r_1 0 hW (by first | exact fun h => absurd h (by decide) | exact fun _ => su_of1 hC c_1 c_35 c_48 | exact fun _ => su_of2 hW c_1 (by assumption) c_35 c_48) (plX3_sum_6 st lo th bm km qm bd ym p0 p1 p2 p3 c_1 _ hw_2 c_21 c_27 c_35 c_41 c_48) _ _ (hP.sub (ws' := [(om, .inr (3, [.int th, .int st, .int lo, .ref ob, .int bm.2.1, .int bm.2.2.1, .int bm.2.2.2.1, .int bm.2.2.2.2, .ref ok, .int km.2, .int qm.1, .int qm.2.1, .int qm.2.2.1, .int qm.2.2.2, .int bd, .int ym.1, .int ym.2.1, .int ym.2.2.1, .int ym.2.2.2])), (ob, .inl (cZ, 5200, .inl bm.1)), (ok, .inl (cK, 600, .inl km.1))]) [0, 1, 2] rfl) (hD.sub (ws' := [(om, .inr (3, [.int th, .int st, .int lo, .ref ob, .int bm.2.1, .int bm.2.2.1, .int bm.2.2.2.1, .int bm.2.2.2.2, .ref ok, .int km.2, .int qm.1, .int qm.2.1, .int qm.2.2.1, .int qm.2.2.2, .int bd, .int ym.1, .int ym.2.1, .int ym.2.2.1, .int ym.2.2.2])), (ob, .inl (cZ, 5200, .inl bm.1)), (ok, .inl (cK, 600, .inl km.1))]) [0, 1, 2] (by decide) rfl) hS ls (lv_sub hl [1, 2, 3, 4, 5, 0] rfl)
            · refine lv_iconst (v := 2) hx hb dX3_sum_51 (by decide) ?_
              refine lv_goto (tgt := 56) hx hb dX3_sum_52 (by decide) ?_
              exact kX3_sum_56 hx hb hr hml hown hts hlocks hA hZ hK  th bm km qm bd ym p0 p1 p2 p3 r_1 2 hW (by first | exact fun h => absurd h (by decide) | exact fun _ => su_of1 hC c_1 c_35 c_48 | exact fun _ => su_of2 hW c_1 (by assumption) c_35 c_48) (plX3_sum_7 st lo th bm km qm bd ym p0 p1 p2 p3 c_1 _ hw_2 c_21 c_27 c_35 c_41 c_48) _ _ (hP.sub (ws' := [(om, .inr (3, [.int th, .int st, .int lo, .ref ob, .int bm.2.1, .int bm.2.2.1, .int bm.2.2.2.1, .int bm.2.2.2.2, .ref ok, .int km.2, .int qm.1, .int qm.2.1, .int qm.2.2.1, .int qm.2.2.2, .int bd, .int ym.1, .int ym.2.1, .int ym.2.2.1, .int ym.2.2.2])), (ob, .inl (cZ, 5200, .inl bm.1)), (ok, .inl (cK, 600, .inl km.1))]) [0, 1, 2] rfl) (hD.sub (ws' := [(om, .inr (3, [.int th, .int st, .int lo, .ref ob, .int bm.2.1, .int bm.2.2.1, .int bm.2.2.2.1, .int bm.2.2.2.2, .ref ok, .int km.2, .int qm.1, .int qm.2.1, .int qm.2.2.1, .int qm.2.2.2, .int bd, .int ym.1, .int ym.2.1, .int ym.2.2.1, .int ym.2.2.2])), (ob, .inl (cZ, 5200, .inl bm.1)), (ok, .inl (cK, 600, .inl km.1))]) [0, 1, 2] (by decide) rfl) hS ls (lv_sub hl [1, 2, 3, 4, 5, 0] rfl)
      · refine lv_iconst (v := 1) hx hb dX3_sum_30 (by decide) ?_
        refine lv_goto (tgt := 56) hx hb dX3_sum_31 (by decide) ?_
        exact kX3_sum_56 hx hb hr hml hown hts hlocks hA hZ hK  th bm km qm bd ym p0 p1 p2 p3 r_1 1 hW (by first | exact fun h => absurd h (by decide) | exact fun _ => su_of1 hC c_1 c_35 c_48 | exact fun _ => su_of2 hW c_1 (by assumption) c_35 c_48) (plX3_sum_8 st lo th bm km qm bd ym p0 p1 p2 p3 c_1 _ hw_2 c_21 c_27) _ _ (hP.sub (ws' := [(om, .inr (3, [.int th, .int st, .int lo, .ref ob, .int bm.2.1, .int bm.2.2.1, .int bm.2.2.2.1, .int bm.2.2.2.2, .ref ok, .int km.2, .int qm.1, .int qm.2.1, .int qm.2.2.1, .int qm.2.2.2, .int bd, .int ym.1, .int ym.2.1, .int ym.2.2.1, .int ym.2.2.2])), (ob, .inl (cZ, 5200, .inl bm.1)), (ok, .inl (cK, 600, .inl km.1))]) [0, 1, 2] rfl) (hD.sub (ws' := [(om, .inr (3, [.int th, .int st, .int lo, .ref ob, .int bm.2.1, .int bm.2.2.1, .int bm.2.2.2.1, .int bm.2.2.2.2, .ref ok, .int km.2, .int qm.1, .int qm.2.1, .int qm.2.2.1, .int qm.2.2.2, .int bd, .int ym.1, .int ym.2.1, .int ym.2.2.1, .int ym.2.2.2])), (ob, .inl (cZ, 5200, .inl bm.1)), (ok, .inl (cK, 600, .inl km.1))]) [0, 1, 2] (by decide) rfl) hS ls (lv_sub hl [1, 2, 3, 4, 5, 0] rfl)
  · refine lv_aload_n hx hb dX3_sum_4 rfl (lv_at hl 0 rfl) ?_
    refine va_get (D := (dC, dI)) (ci := 3) (v := .int km.2) (C := RX3) (T := TX3) (N := 19) hx hb hts inGX3 hown hK hP 0 rfl rfl 9 (by decide) (hts _ wd446) (fun _ h9 => h9) rfl dX3_sum_5 ?_
    refine lv_goto (tgt := 15) hx hb dX3_sum_8 (by decide) ?_
    refine lv_istore (lv' := [(5, .int km.2), (0, .ref om), (1, .int p0), (2, .int p1), (3, .int p2), (4, .int p3)]) hx hb dX3_sum_15 hl (by decide) rfl (fun ls hl => ?_)
    refine lv_aload_n hx hb dX3_sum_17 rfl (lv_at hl 1 rfl) ?_
    refine lv_iload_n hx hb dX3_sum_18 rfl (lv_at hl 3 rfl) ?_
    refine lv_bipush (v := 16) hx hb dX3_sum_19 (by decide) ?_
    refine lv_icmp_eq (tgt := 34) hx hb dX3_sum_21 (by decide) (fun c_21 => ?_) (fun c_21 => ?_)
    · refine lv_iload_n hx hb dX3_sum_34 rfl (lv_at hl 4 rfl) ?_
      refine lv_if_lt (tgt := 51) hx hb dX3_sum_35 (by decide) (fun c_35 => ?_) (fun c_35 => ?_)
      · refine lv_iconst (v := 2) hx hb dX3_sum_51 (by decide) ?_
        refine lv_goto (tgt := 56) hx hb dX3_sum_52 (by decide) ?_
        exact kX3_sum_56 hx hb hr hml hown hts hlocks hA hZ hK  th bm km qm bd ym p0 p1 p2 p3 km.2 2 hW (by first | exact fun h => absurd h (by decide) | exact fun _ => su_of1 hC c_1 c_35 c_48 | exact fun _ => su_of2 hW c_1 (by assumption) c_35 c_48) (plX3_sum_9 st lo th bm km qm bd ym p0 p1 p2 p3 c_1 c_21 c_35) _ _ (hP.sub (ws' := [(om, .inr (3, [.int th, .int st, .int lo, .ref ob, .int bm.2.1, .int bm.2.2.1, .int bm.2.2.2.1, .int bm.2.2.2.2, .ref ok, .int km.2, .int qm.1, .int qm.2.1, .int qm.2.2.1, .int qm.2.2.2, .int bd, .int ym.1, .int ym.2.1, .int ym.2.2.1, .int ym.2.2.2])), (ob, .inl (cZ, 5200, .inl bm.1)), (ok, .inl (cK, 600, .inl km.1))]) [0, 1, 2] rfl) (hD.sub (ws' := [(om, .inr (3, [.int th, .int st, .int lo, .ref ob, .int bm.2.1, .int bm.2.2.1, .int bm.2.2.2.1, .int bm.2.2.2.2, .ref ok, .int km.2, .int qm.1, .int qm.2.1, .int qm.2.2.1, .int qm.2.2.2, .int bd, .int ym.1, .int ym.2.1, .int ym.2.2.1, .int ym.2.2.2])), (ob, .inl (cZ, 5200, .inl bm.1)), (ok, .inl (cK, 600, .inl km.1))]) [0, 1, 2] (by decide) rfl) hS ls (lv_sub hl [1, 2, 3, 4, 5, 0] rfl)
      · refine lv_iload_n hx hb dX3_sum_38 rfl (lv_at hl 4 rfl) ?_
        refine lv_iload hx hb dX3_sum_39 (lv_at hl 5 rfl) ?_
        refine lv_icmp_gt (tgt := 51) hx hb dX3_sum_41 (by decide) (fun c_41 => ?_) (fun c_41 => ?_)
        · refine lv_iconst (v := 2) hx hb dX3_sum_51 (by decide) ?_
          refine lv_goto (tgt := 56) hx hb dX3_sum_52 (by decide) ?_
          exact kX3_sum_56 hx hb hr hml hown hts hlocks hA hZ hK  th bm km qm bd ym p0 p1 p2 p3 km.2 2 hW (by first | exact fun h => absurd h (by decide) | exact fun _ => su_of1 hC c_1 c_35 c_48 | exact fun _ => su_of2 hW c_1 (by assumption) c_35 c_48) (plX3_sum_10 st lo th bm km qm bd ym p0 p1 p2 p3 c_1 c_21 c_35 c_41) _ _ (hP.sub (ws' := [(om, .inr (3, [.int th, .int st, .int lo, .ref ob, .int bm.2.1, .int bm.2.2.1, .int bm.2.2.2.1, .int bm.2.2.2.2, .ref ok, .int km.2, .int qm.1, .int qm.2.1, .int qm.2.2.1, .int qm.2.2.2, .int bd, .int ym.1, .int ym.2.1, .int ym.2.2.1, .int ym.2.2.2])), (ob, .inl (cZ, 5200, .inl bm.1)), (ok, .inl (cK, 600, .inl km.1))]) [0, 1, 2] rfl) (hD.sub (ws' := [(om, .inr (3, [.int th, .int st, .int lo, .ref ob, .int bm.2.1, .int bm.2.2.1, .int bm.2.2.2.1, .int bm.2.2.2.2, .ref ok, .int km.2, .int qm.1, .int qm.2.1, .int qm.2.2.1, .int qm.2.2.2, .int bd, .int ym.1, .int ym.2.1, .int ym.2.2.1, .int ym.2.2.2])), (ob, .inl (cZ, 5200, .inl bm.1)), (ok, .inl (cK, 600, .inl km.1))]) [0, 1, 2] (by decide) rfl) hS ls (lv_sub hl [1, 2, 3, 4, 5, 0] rfl)
        · refine lv_iload hx hb dX3_sum_44 (lv_at hl 5 rfl) ?_
          refine lv_iload hx hb dX3_sum_46 (lv_at hl 0 rfl) ?_
          refine lv_icmp_le (tgt := 55) hx hb dX3_sum_48 (by decide) (fun c_48 => ?_) (fun c_48 => ?_)
          · refine lv_iconst (v := 0) hx hb dX3_sum_55 (by decide) ?_
            exact kX3_sum_56 hx hb hr hml hown hts hlocks hA hZ hK  th bm km qm bd ym p0 p1 p2 p3 km.2 0 hW (by first | exact fun h => absurd h (by decide) | exact fun _ => su_of1 hC c_1 c_35 c_48 | exact fun _ => su_of2 hW c_1 (by assumption) c_35 c_48) (plX3_sum_11 st lo th bm km qm bd ym p0 p1 p2 p3 c_1 c_21 c_35 c_41 c_48) _ _ (hP.sub (ws' := [(om, .inr (3, [.int th, .int st, .int lo, .ref ob, .int bm.2.1, .int bm.2.2.1, .int bm.2.2.2.1, .int bm.2.2.2.2, .ref ok, .int km.2, .int qm.1, .int qm.2.1, .int qm.2.2.1, .int qm.2.2.2, .int bd, .int ym.1, .int ym.2.1, .int ym.2.2.1, .int ym.2.2.2])), (ob, .inl (cZ, 5200, .inl bm.1)), (ok, .inl (cK, 600, .inl km.1))]) [0, 1, 2] rfl) (hD.sub (ws' := [(om, .inr (3, [.int th, .int st, .int lo, .ref ob, .int bm.2.1, .int bm.2.2.1, .int bm.2.2.2.1, .int bm.2.2.2.2, .ref ok, .int km.2, .int qm.1, .int qm.2.1, .int qm.2.2.1, .int qm.2.2.2, .int bd, .int ym.1, .int ym.2.1, .int ym.2.2.1, .int ym.2.2.2])), (ob, .inl (cZ, 5200, .inl bm.1)), (ok, .inl (cK, 600, .inl km.1))]) [0, 1, 2] (by decide) rfl) hS ls (lv_sub hl [1, 2, 3, 4, 5, 0] rfl)
          · refine lv_iconst (v := 2) hx hb dX3_sum_51 (by decide) ?_
            refine lv_goto (tgt := 56) hx hb dX3_sum_52 (by decide) ?_
            exact kX3_sum_56 hx hb hr hml hown hts hlocks hA hZ hK  th bm km qm bd ym p0 p1 p2 p3 km.2 2 hW (by first | exact fun h => absurd h (by decide) | exact fun _ => su_of1 hC c_1 c_35 c_48 | exact fun _ => su_of2 hW c_1 (by assumption) c_35 c_48) (plX3_sum_12 st lo th bm km qm bd ym p0 p1 p2 p3 c_1 c_21 c_35 c_41 c_48) _ _ (hP.sub (ws' := [(om, .inr (3, [.int th, .int st, .int lo, .ref ob, .int bm.2.1, .int bm.2.2.1, .int bm.2.2.2.1, .int bm.2.2.2.2, .ref ok, .int km.2, .int qm.1, .int qm.2.1, .int qm.2.2.1, .int qm.2.2.2, .int bd, .int ym.1, .int ym.2.1, .int ym.2.2.1, .int ym.2.2.2])), (ob, .inl (cZ, 5200, .inl bm.1)), (ok, .inl (cK, 600, .inl km.1))]) [0, 1, 2] rfl) (hD.sub (ws' := [(om, .inr (3, [.int th, .int st, .int lo, .ref ob, .int bm.2.1, .int bm.2.2.1, .int bm.2.2.2.1, .int bm.2.2.2.2, .ref ok, .int km.2, .int qm.1, .int qm.2.1, .int qm.2.2.1, .int qm.2.2.2, .int bd, .int ym.1, .int ym.2.1, .int ym.2.2.1, .int ym.2.2.2])), (ob, .inl (cZ, 5200, .inl bm.1)), (ok, .inl (cK, 600, .inl km.1))]) [0, 1, 2] (by decide) rfl) hS ls (lv_sub hl [1, 2, 3, 4, 5, 0] rfl)
    · refine lv_iload_n hx hb dX3_sum_24 rfl (lv_at hl 3 rfl) ?_
      refine lv_bipush (v := 32) hx hb dX3_sum_25 (by decide) ?_
      refine lv_icmp_eq (tgt := 34) hx hb dX3_sum_27 (by decide) (fun c_27 => ?_) (fun c_27 => ?_)
      · refine lv_iload_n hx hb dX3_sum_34 rfl (lv_at hl 4 rfl) ?_
        refine lv_if_lt (tgt := 51) hx hb dX3_sum_35 (by decide) (fun c_35 => ?_) (fun c_35 => ?_)
        · refine lv_iconst (v := 2) hx hb dX3_sum_51 (by decide) ?_
          refine lv_goto (tgt := 56) hx hb dX3_sum_52 (by decide) ?_
          exact kX3_sum_56 hx hb hr hml hown hts hlocks hA hZ hK  th bm km qm bd ym p0 p1 p2 p3 km.2 2 hW (by first | exact fun h => absurd h (by decide) | exact fun _ => su_of1 hC c_1 c_35 c_48 | exact fun _ => su_of2 hW c_1 (by assumption) c_35 c_48) (plX3_sum_13 st lo th bm km qm bd ym p0 p1 p2 p3 c_1 c_21 c_27 c_35) _ _ (hP.sub (ws' := [(om, .inr (3, [.int th, .int st, .int lo, .ref ob, .int bm.2.1, .int bm.2.2.1, .int bm.2.2.2.1, .int bm.2.2.2.2, .ref ok, .int km.2, .int qm.1, .int qm.2.1, .int qm.2.2.1, .int qm.2.2.2, .int bd, .int ym.1, .int ym.2.1, .int ym.2.2.1, .int ym.2.2.2])), (ob, .inl (cZ, 5200, .inl bm.1)), (ok, .inl (cK, 600, .inl km.1))]) [0, 1, 2] rfl) (hD.sub (ws' := [(om, .inr (3, [.int th, .int st, .int lo, .ref ob, .int bm.2.1, .int bm.2.2.1, .int bm.2.2.2.1, .int bm.2.2.2.2, .ref ok, .int km.2, .int qm.1, .int qm.2.1, .int qm.2.2.1, .int qm.2.2.2, .int bd, .int ym.1, .int ym.2.1, .int ym.2.2.1, .int ym.2.2.2])), (ob, .inl (cZ, 5200, .inl bm.1)), (ok, .inl (cK, 600, .inl km.1))]) [0, 1, 2] (by decide) rfl) hS ls (lv_sub hl [1, 2, 3, 4, 5, 0] rfl)
        · refine lv_iload_n hx hb dX3_sum_38 rfl (lv_at hl 4 rfl) ?_
          refine lv_iload hx hb dX3_sum_39 (lv_at hl 5 rfl) ?_
          refine lv_icmp_gt (tgt := 51) hx hb dX3_sum_41 (by decide) (fun c_41 => ?_) (fun c_41 => ?_)
          · refine lv_iconst (v := 2) hx hb dX3_sum_51 (by decide) ?_
            refine lv_goto (tgt := 56) hx hb dX3_sum_52 (by decide) ?_
            exact kX3_sum_56 hx hb hr hml hown hts hlocks hA hZ hK  th bm km qm bd ym p0 p1 p2 p3 km.2 2 hW (by first | exact fun h => absurd h (by decide) | exact fun _ => su_of1 hC c_1 c_35 c_48 | exact fun _ => su_of2 hW c_1 (by assumption) c_35 c_48) (plX3_sum_14 st lo th bm km qm bd ym p0 p1 p2 p3 c_1 c_21 c_27 c_35 c_41) _ _ (hP.sub (ws' := [(om, .inr (3, [.int th, .int st, .int lo, .ref ob, .int bm.2.1, .int bm.2.2.1, .int bm.2.2.2.1, .int bm.2.2.2.2, .ref ok, .int km.2, .int qm.1, .int qm.2.1, .int qm.2.2.1, .int qm.2.2.2, .int bd, .int ym.1, .int ym.2.1, .int ym.2.2.1, .int ym.2.2.2])), (ob, .inl (cZ, 5200, .inl bm.1)), (ok, .inl (cK, 600, .inl km.1))]) [0, 1, 2] rfl) (hD.sub (ws' := [(om, .inr (3, [.int th, .int st, .int lo, .ref ob, .int bm.2.1, .int bm.2.2.1, .int bm.2.2.2.1, .int bm.2.2.2.2, .ref ok, .int km.2, .int qm.1, .int qm.2.1, .int qm.2.2.1, .int qm.2.2.2, .int bd, .int ym.1, .int ym.2.1, .int ym.2.2.1, .int ym.2.2.2])), (ob, .inl (cZ, 5200, .inl bm.1)), (ok, .inl (cK, 600, .inl km.1))]) [0, 1, 2] (by decide) rfl) hS ls (lv_sub hl [1, 2, 3, 4, 5, 0] rfl)
          · refine lv_iload hx hb dX3_sum_44 (lv_at hl 5 rfl) ?_
            refine lv_iload hx hb dX3_sum_46 (lv_at hl 0 rfl) ?_
            refine lv_icmp_le (tgt := 55) hx hb dX3_sum_48 (by decide) (fun c_48 => ?_) (fun c_48 => ?_)
            · refine lv_iconst (v := 0) hx hb dX3_sum_55 (by decide) ?_
              exact kX3_sum_56 hx hb hr hml hown hts hlocks hA hZ hK  th bm km qm bd ym p0 p1 p2 p3 km.2 0 hW (by first | exact fun h => absurd h (by decide) | exact fun _ => su_of1 hC c_1 c_35 c_48 | exact fun _ => su_of2 hW c_1 (by assumption) c_35 c_48) (plX3_sum_15 st lo th bm km qm bd ym p0 p1 p2 p3 c_1 c_21 c_27 c_35 c_41 c_48) _ _ (hP.sub (ws' := [(om, .inr (3, [.int th, .int st, .int lo, .ref ob, .int bm.2.1, .int bm.2.2.1, .int bm.2.2.2.1, .int bm.2.2.2.2, .ref ok, .int km.2, .int qm.1, .int qm.2.1, .int qm.2.2.1, .int qm.2.2.2, .int bd, .int ym.1, .int ym.2.1, .int ym.2.2.1, .int ym.2.2.2])), (ob, .inl (cZ, 5200, .inl bm.1)), (ok, .inl (cK, 600, .inl km.1))]) [0, 1, 2] rfl) (hD.sub (ws' := [(om, .inr (3, [.int th, .int st, .int lo, .ref ob, .int bm.2.1, .int bm.2.2.1, .int bm.2.2.2.1, .int bm.2.2.2.2, .ref ok, .int km.2, .int qm.1, .int qm.2.1, .int qm.2.2.1, .int qm.2.2.2, .int bd, .int ym.1, .int ym.2.1, .int ym.2.2.1, .int ym.2.2.2])), (ob, .inl (cZ, 5200, .inl bm.1)), (ok, .inl (cK, 600, .inl km.1))]) [0, 1, 2] (by decide) rfl) hS ls (lv_sub hl [1, 2, 3, 4, 5, 0] rfl)
            · refine lv_iconst (v := 2) hx hb dX3_sum_51 (by decide) ?_
              refine lv_goto (tgt := 56) hx hb dX3_sum_52 (by decide) ?_
              exact kX3_sum_56 hx hb hr hml hown hts hlocks hA hZ hK  th bm km qm bd ym p0 p1 p2 p3 km.2 2 hW (by first | exact fun h => absurd h (by decide) | exact fun _ => su_of1 hC c_1 c_35 c_48 | exact fun _ => su_of2 hW c_1 (by assumption) c_35 c_48) (plX3_sum_16 st lo th bm km qm bd ym p0 p1 p2 p3 c_1 c_21 c_27 c_35 c_41 c_48) _ _ (hP.sub (ws' := [(om, .inr (3, [.int th, .int st, .int lo, .ref ob, .int bm.2.1, .int bm.2.2.1, .int bm.2.2.2.1, .int bm.2.2.2.2, .ref ok, .int km.2, .int qm.1, .int qm.2.1, .int qm.2.2.1, .int qm.2.2.2, .int bd, .int ym.1, .int ym.2.1, .int ym.2.2.1, .int ym.2.2.2])), (ob, .inl (cZ, 5200, .inl bm.1)), (ok, .inl (cK, 600, .inl km.1))]) [0, 1, 2] rfl) (hD.sub (ws' := [(om, .inr (3, [.int th, .int st, .int lo, .ref ob, .int bm.2.1, .int bm.2.2.1, .int bm.2.2.2.1, .int bm.2.2.2.2, .ref ok, .int km.2, .int qm.1, .int qm.2.1, .int qm.2.2.1, .int qm.2.2.2, .int bd, .int ym.1, .int ym.2.1, .int ym.2.2.1, .int ym.2.2.2])), (ob, .inl (cZ, 5200, .inl bm.1)), (ok, .inl (cK, 600, .inl km.1))]) [0, 1, 2] (by decide) rfl) hS ls (lv_sub hl [1, 2, 3, 4, 5, 0] rfl)
      · refine lv_iconst (v := 1) hx hb dX3_sum_30 (by decide) ?_
        refine lv_goto (tgt := 56) hx hb dX3_sum_31 (by decide) ?_
        exact kX3_sum_56 hx hb hr hml hown hts hlocks hA hZ hK  th bm km qm bd ym p0 p1 p2 p3 km.2 1 hW (by first | exact fun h => absurd h (by decide) | exact fun _ => su_of1 hC c_1 c_35 c_48 | exact fun _ => su_of2 hW c_1 (by assumption) c_35 c_48) (plX3_sum_17 st lo th bm km qm bd ym p0 p1 p2 p3 c_1 c_21 c_27) _ _ (hP.sub (ws' := [(om, .inr (3, [.int th, .int st, .int lo, .ref ob, .int bm.2.1, .int bm.2.2.1, .int bm.2.2.2.1, .int bm.2.2.2.2, .ref ok, .int km.2, .int qm.1, .int qm.2.1, .int qm.2.2.1, .int qm.2.2.2, .int bd, .int ym.1, .int ym.2.1, .int ym.2.2.1, .int ym.2.2.2])), (ob, .inl (cZ, 5200, .inl bm.1)), (ok, .inl (cK, 600, .inl km.1))]) [0, 1, 2] rfl) (hD.sub (ws' := [(om, .inr (3, [.int th, .int st, .int lo, .ref ob, .int bm.2.1, .int bm.2.2.1, .int bm.2.2.2.1, .int bm.2.2.2.2, .ref ok, .int km.2, .int qm.1, .int qm.2.1, .int qm.2.2.1, .int qm.2.2.2, .int bd, .int ym.1, .int ym.2.1, .int ym.2.2.1, .int ym.2.2.2])), (ob, .inl (cZ, 5200, .inl bm.1)), (ok, .inl (cK, 600, .inl km.1))]) [0, 1, 2] (by decide) rfl) hS ls (lv_sub hl [1, 2, 3, 4, 5, 0] rfl)
