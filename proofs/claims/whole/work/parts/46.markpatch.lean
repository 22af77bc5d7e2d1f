/-! MARKS AND PATCHES -/
theorem q_addByte {lf : Int32} {rs : Rw} {p : Int32} {n : Nat} (h : rs.2 = nI n) (hn : n < 600) : FX0_addByte lf rs p = (upd rs.1 n p, nI (n + 1)) := by
  unfold FX0_addByte
  dsimp only
  rw [h, if_neg (nI_pos (by omega)), if_neg (by rw [q_ge (x := 600) 600 (by omega) (by decide) rfl]; omega), nI_clamp (by omega), nI_1]
def adds (st lo th : Int32) (km : Rw) (qm : Tk) (bd : Int32) (ym : Tk) (β : Nat → Int32) : Nat → Bm → Bm
  | 0, bm => bm
  | k + 1, bm => FX3_add st lo th (adds st lo th km qm bd ym β k bm) km qm bd ym (β k)
theorem adds_spec {st lo th : Int32} {bm : Bm} {km : Rw} {qm : Tk} {bd : Int32} {ym : Tk} {β : Nat → Int32} {w : Nat} (hβ : ∀ i, isB (β i)) (hw : bm.2.1 = nI w) : ∀ k, w + k ≤ 5200 → (adds st lo th km qm bd ym β k bm).2.1 = nI (w + k) ∧ (∀ i, i < w → (adds st lo th km qm bd ym β k bm).1 i = bm.1 i) ∧ (∀ i, i < k → (adds st lo th km qm bd ym β k bm).1 (w + i) = β i) ∧ (adds st lo th km qm bd ym β k bm).2.2.1 = bm.2.2.1 ∧ (adds st lo th km qm bd ym β k bm).2.2.2.1 = bm.2.2.2.1 := by
  intro k
  induction k with
  | zero => intro _; exact ⟨hw, fun _ _ => rfl, fun i h => absurd h (by omega), rfl, rfl⟩
  | succ k ih =>
    intro h
    obtain ⟨a1, a2, a3, a4, a5⟩ := ih (by omega)
    rw [adds, q_add (hβ k) a1 (by omega)]
    refine ⟨rfl, fun i hi => ?_, fun i hi => ?_, a4, a5⟩
    · show upd _ (w + k) (β k) i = _
      rw [pk_un (by omega)]; exact a2 i hi
    · show upd _ (w + k) (β k) (w + i) = _
      by_cases c : i = k
      · rw [c, pk_us]
      · rw [pk_un (by omega)]; exact a3 i (by omega)
theorem m73_step {st lo th : Int32} {bm : Bm} {km : Rw} {qm : Tk} {bd : Int32} {ym : Tk} {p0 nn pl : Int32} {n k : Nat} (hk : k < 8) : LX3_mark_73 st lo (n + 1) th bm km qm bd ym p0 nn pl (nI k) = LX3_mark_73 st lo n th (FX3_add st lo th bm km qm bd ym 1) km qm bd ym p0 nn pl (nI (k + 1)) := by
  rw [LX3_mark_73, if_neg (by rw [q_ge (x := 8) 8 (by omega) (by decide) rfl]; omega)]
  dsimp only
  rw [nI_1]
def mbit (lo p0 : Int32) (k : Nat) : Int32 := (p0 >>> (shk lo k &&& 31)) &&& 1
theorem m94_step {st lo th : Int32} {bm : Bm} {km : Rw} {qm : Tk} {bd : Int32} {ym : Tk} {p0 nn pl : Int32} {n k : Nat} (hk : k < 8) : LX3_mark_94 st lo (n + 1) th bm km qm bd ym p0 nn pl (nI k) = LX3_mark_94 st lo n th (FX3_add st lo th bm km qm bd ym (mbit lo p0 k)) km qm bd ym p0 nn pl (nI (k + 1)) := by
  rw [LX3_mark_94, if_neg (by rw [q_ge (x := 8) 8 (by omega) (by decide) rfl]; omega)]
  dsimp only
  rw [nI_1]
  have hx : ∀ x : Int32, isB x → ¬ x = 1 → x = 0 := fun x h q => by rcases h with h | h; exact h; exact absurd h q
  unfold mbit shk
  by_cases c : lo = 0
  · simp only [if_pos c]
    by_cases d : (p0 >>> ((7 - nI k) &&& 31)) &&& 1 = 1
    · rw [if_pos d, d]
    · rw [if_neg d, hx _ (and1 _) d]
  · simp only [if_neg c]
    by_cases d : (p0 >>> (nI k &&& 31)) &&& 1 = 1
    · rw [if_pos d, d]
    · rw [if_neg d, hx _ (and1 _) d]
theorem m73_all {st lo th : Int32} {bm : Bm} {km : Rw} {qm : Tk} {bd : Int32} {ym : Tk} {p0 nn pl : Int32} : LX3_mark_73 st lo 9 th bm km qm bd ym p0 nn pl 0 = LX3_mark_94 st lo 9 th (adds st lo th km qm bd ym (fun _ => 1) 8 bm) km qm bd ym p0 nn pl 0 := by
  rw [show LX3_mark_73 st lo 9 th bm km qm bd ym p0 nn pl 0 = LX3_mark_73 st lo 9 th bm km qm bd ym p0 nn pl (nI 0) from rfl]
  rw [m73_step (by omega), m73_step (by omega), m73_step (by omega), m73_step (by omega), m73_step (by omega), m73_step (by omega), m73_step (by omega), m73_step (by omega), LX3_mark_73]
  rw [if_pos (by rw [q_ge (x := 8) 8 (by omega) (by decide) rfl]; omega)]
  rfl
set_option maxRecDepth 100000 in
theorem m94_all {st lo th : Int32} {bm : Bm} {km : Rw} {qm : Tk} {bd : Int32} {ym : Tk} {p0 nn pl : Int32} : LX3_mark_94 st lo 9 th bm km qm bd ym p0 nn pl 0 = (pl, th, ((adds st lo th km qm bd ym (mbit lo p0) 8 bm).1, (adds st lo th km qm bd ym (mbit lo p0) 8 bm).2.1, (adds st lo th km qm bd ym (mbit lo p0) 8 bm).2.2.1, (adds st lo th km qm bd ym (mbit lo p0) 8 bm).2.2.2.1, 0)) := by
  rw [show LX3_mark_94 st lo 9 th bm km qm bd ym p0 nn pl 0 = LX3_mark_94 st lo 9 th bm km qm bd ym p0 nn pl (nI 0) from rfl]
  rw [m94_step (by omega), m94_step (by omega), m94_step (by omega), m94_step (by omega), m94_step (by omega), m94_step (by omega), m94_step (by omega), m94_step (by omega), LX3_mark_94]
  rw [if_pos (by rw [q_ge (x := 8) 8 (by omega) (by decide) rfl]; omega)]
  simp only [adds, Nat.zero_add, Nat.reduceAdd]
/-- a mark stands on both sides -/
theorem mark_rows {lf p0 : Int32} {wr : Rw} {bm bF : Bm} {w : Nat} (hl : isB lf) (hp0 : 0 ≤ p0.toInt) (hp1 : p0.toInt ≤ 255) (hR : Rr lf wr bm w) (h8 : w % 8 = 0) (hw : w + 16 ≤ 4800) (f1 : bF.2.1 = nI (w + 16)) (f2 : ∀ i, i < w → bF.1 i = bm.1 i) (f3 : ∀ i, i < 8 → bF.1 (w + i) = 1) (f4 : ∀ i, i < 8 → bF.1 (w + 8 + i) = mbit lf p0 i) (f5 : bF.2.2.2.2 = 0) :
    Rr lf (FX0_addByte lf (FX0_addByte lf wr 255) p0) bF (w + 16) := by
  obtain ⟨h1, h2, h3, h4⟩ := hR
  rw [q_addByte (rs := wr) (n := w / 8) (by rw [h2]; congr 1; omega) (by omega), q_addByte (rs := (upd wr.1 (w / 8) 255, nI (w / 8 + 1))) (n := w / 8 + 1) rfl (by omega)]
  refine ⟨f1, ?_, fun j hj => ?_, by rw [f5]; exact Or.inl rfl⟩
  · show nI (w / 8 + 1 + 1) = _; congr 1; omega
  · show upd (upd wr.1 (w / 8) 255) (w / 8 + 1) p0 j = _
    by_cases c1 : j = w / 8 + 1
    · rw [c1, pk_us]
      refine (bo_code hl hp0 hp1 fun k hk => ?_).symm
      unfold bgot
      rw [decide_eq_true (by omega), Bool.true_and, show 8 * (w / 8 + 1) + k = w + 8 + k by omega, f4 k hk]
      have hb : isB (mbit lf p0 k) := and1 _
      show decide (¬ mbit lf p0 k = 0) = decide (mbit lf p0 k = 1)
      rcases hb with e | e <;> rw [e] <;> decide
    · rw [pk_un c1]
      by_cases c2 : j = w / 8
      · rw [c2, pk_us]
        refine ((bo_full hl _).mpr fun k hk => ?_).symm
        unfold bgot
        rw [decide_eq_true (by omega), Bool.true_and, show 8 * (w / 8) + k = w + k by omega, f3 k hk]
        decide
      · rw [pk_un c2, h3 j hj]
        by_cases c3 : j < w / 8
        · refine bo_congr fun k hk => ?_
          unfold bgot
          rw [decide_eq_true (p := 8 * j + k < w) (by omega), decide_eq_true (p := 8 * j + k < w + 16) (by omega), f2 _ (by omega)]
        · rw [bo_none, bo_none]
          · intro k hk; unfold bgot; rw [decide_eq_false (by omega), Bool.false_and]
          · intro k hk; unfold bgot; rw [decide_eq_false (by omega), Bool.false_and]
theorem sim_mark {st lf ao sib : Int32} {wr : Rw} {tw : Tk} {cr : Rw} {tr : Tk} {bad th : Int32} {bm : Bm} {km : Rw} {qm : Tk} {bd : Int32} {ym : Tk} {ov : Nat → Int64} {p0 : Int32} {r1 : Int32} {r2 : Int32} {wr' : Rw} {tw' : Tk} {ov' : Nat → Int64} {th' : Int32} {bm' : Bm} (hI : Inv st lf ao sib wr tw cr tr bad th bm km qm bd ym) (e1 : (r1, wr', tw', ov') = FL_mark st lf ao sib wr tw cr tr bad ov p0) (e2 : (r2, th', bm') = FX3_mark st lf th bm km qm bd ym p0) : th' = r1 ∧ (r1 = 0 → ov' (0 : Int32).toNatClampNeg = r2.toInt64) ∧ Inv st lf ao sib wr' tw' cr tr bad th' bm' km qm bd ym := by
  obtain ⟨hC, hw, hK, hR, hB⟩ := id hI
  obtain ⟨c1, c2, c3, c4, c5, c6⟩ := id hC
  obtain ⟨w, me, h1, hW⟩ := invW_to hw
  unfold FL_mark FX2_mark at e1
  unfold FX3_mark at e2
  dsimp only at e2
  by_cases s1 : st = 1
  · rw [if_pos s1] at e1 e2
    rw [q_isIn, Int32.toInt_toInt64, show (128 : Int64).toInt = 128 from rfl, show (255 : Int64).toInt = 255 from rfl] at e2
    have l1 : p0 < 128 ↔ p0.toInt < 128 := by rw [ltI, show (128 : Int32).toInt = 128 from rfl]
    have l2 : p0 ≤ 255 ↔ p0.toInt ≤ 255 := by rw [leI, show (255 : Int32).toInt = 255 from rfl]
    by_cases a : 128 ≤ p0.toInt ∧ p0.toInt ≤ 255
    · rw [if_neg (by rw [l1]; omega), if_pos (l2.mpr a.2)] at e1
      rw [if_pos a, if_neg (by decide)] at e2
      unfold FX2_refuseToOverfill FX2_writeTillAligned at e1
      unfold FX3_isFull at e2
      rw [hW.2.2.1] at e1
      rw [hW.1.1] at e2
      have hf : ((nI w + (2 * 32)) + 16) ≤ 4800 ↔ w + 2 * 32 + 16 ≤ 4800 := q_fullI (b := 32) h1 (by decide)
      by_cases f : w + 2 * 32 + 16 ≤ 4800
      · rw [if_pos (hf.mpr f)] at e1 e2
        rw [if_pos rfl] at e2
        unfold LX3_mark_45 FX3_alignAll at e2
        rw [if_pos (by decide)] at e2
        obtain ⟨wr2, tw2, bm2, w2, z, q1, q2, q3, q4, q5, q6, q7⟩ := al_loop (ao := ao) (cr := cr) (tr := tr) (bad := bad) (th := 0) (km := km) (qm := qm) (bd := bd) (ym := ym) c1 c2 c3 c5 c6 17 8 0 w wr tw bm 0 hW mu8 (by omega) (by omega) h1 (fun _ => by omega)
        have q1' : LX2_writeTillAligned_4 st lf ao sib 17 wr tw cr tr bad 0 0 = (z, wr2, tw2) := q1
        simp only [xbind, xcase] at e1
        rw [q1'] at e1
        rw [q2] at e2
        dsimp only at e1 e2
        obtain ⟨k1, k2, k3, k4, k5⟩ := adds_spec (st := st) (lo := lf) (th := 0) (km := km) (qm := qm) (bd := bd) (ym := ym) (β := fun _ => 1) (fun _ => Or.inr rfl) q5.1.1 8 (by omega)
        obtain ⟨m1, m2, m3, m4, m5⟩ := adds_spec (st := st) (lo := lf) (th := 0) (km := km) (qm := qm) (bd := bd) (ym := ym) (β := mbit lf p0) (fun _ => and1 _) k1 8 (by omega)
        rw [m73_all, m94_all] at e2
        generalize adds st lf 0 km qm bd ym (fun _ => 1) 8 bm2 = A at k1 k2 k3 k4 k5 m1 m2 m3 m4 m5 e2
        generalize adds st lf 0 km qm bd ym (mbit lf p0) 8 A = F at m1 m2 m3 m4 m5 e2
        have hrow := mark_rows (bF := (F.1, F.2.1, F.2.2.1, F.2.2.2.1, 0)) (p0 := p0) c3 (by omega) a.2 q5.1 q6 (by omega) m1 (fun i hi => by rw [m2 i (by omega), k2 i hi]) (fun i hi => by rw [m2 (w2 + i) (by omega), k3 i hi]) (fun i hi => m3 i hi) rfl
        rw [q5.2.2.1] at e1
        rw [q5.1.1] at e2
        unfold FX1_stepOverMark at e1
        dsimp only at e1
        rw [q5.2.2.1, show (16 : Int32) = nI 16 from rfl, nI_add, q_sh3 (by omega), q_sh3 (by omega)] at e1
        rw [q_dv8 (by omega)] at e2
        simp only [Prod.mk.injEq] at e1 e2
        obtain ⟨rfl, rfl, rfl, rfl⟩ := e1
        obtain ⟨rfl, rfl, rfl⟩ := e2
        refine ⟨rfl, fun _ => pk_uLs, hC, invW_of (w := w2 + 16) (me := (w2 + 16) / 8) (by omega) ⟨hrow, by omega, rfl, rfl, ?_, ?_, ?_⟩, hK, hR, hB⟩
        · show tw2.2.1 = F.2.2.1; rw [m4, k4]; exact q5.2.2.2.2.1
        · intro q; rw [s1] at q; exact absurd q (by decide)
        · intro _
          refine ⟨⟨fun q => absurd rfl q, fun q => absurd rfl q.2.1⟩, fun _ q => q.2 rfl⟩
      · rw [if_neg (fun q => f (hf.mp q))] at e1 e2
        rw [if_neg (by decide)] at e2
        unfold LX3_mark_45 at e2
        rw [if_neg (by decide)] at e2
        simp only [xbind, xcase] at e1
        rw [if_neg (by decide), if_neg (by decide)] at e1
        simp only [Prod.mk.injEq] at e1 e2
        obtain ⟨rfl, rfl, rfl, rfl⟩ := e1
        obtain ⟨rfl, rfl, rfl⟩ := e2
        exact ⟨rfl, fun q => absurd q (by decide), hC, hw, hK, hR, hB⟩
    · rw [if_neg a, if_pos rfl] at e2
      unfold LX3_mark_45 at e2
      rw [if_neg (by decide)] at e2
      have ex : (if p0 < 128 then (Sum.inl "java/lang/IllegalArgumentException" : String ⊕ (Int32 × Rw × Tk)) else if p0 ≤ 255 then xbind (FX2_refuseToOverfill st lf ao sib wr tw cr tr bad 32) (fun zhw_1 => let zhw_5 := FX2_writeTillAligned st lf ao sib wr tw cr tr bad; let r_4 := zhw_5.1; let u_6wr := zhw_5.2.1; let u_6tw := zhw_5.2.2; let x_7 := u_6tw.1 >>> (3 &&& 31); let u_9 := FX0_addByte lf u_6wr 255; let u_11 := FX0_addByte lf u_9 p0; let u_13 := FX1_stepOverMark st sib lf u_6tw u_11; Sum.inr (x_7, u_11, u_13)) else Sum.inl "java/lang/IllegalArgumentException") = Sum.inl "java/lang/IllegalArgumentException" := by
        by_cases b : p0 < 128
        · rw [if_pos b]
        · rw [if_neg b, if_neg (by rw [l1] at b; rw [l2]; omega)]
      rw [ex] at e1
      simp only [xcase] at e1
      rw [if_neg (by decide), if_pos trivial] at e1
      simp only [Prod.mk.injEq] at e1 e2
      obtain ⟨rfl, rfl, rfl, rfl⟩ := e1
      obtain ⟨rfl, rfl, rfl⟩ := e2
      exact ⟨rfl, fun q => absurd q (by decide), hC, hw, hK, hR, hB⟩
  · rw [if_neg s1] at e1 e2
    unfold LX3_mark_45 at e2
    rw [if_neg (by decide)] at e2
    simp only [xcase] at e1
    rw [if_pos trivial] at e1
    simp only [Prod.mk.injEq] at e1 e2
    obtain ⟨rfl, rfl, rfl, rfl⟩ := e1
    obtain ⟨rfl, rfl, rfl⟩ := e2
    exact ⟨rfl, fun q => absurd q (by decide), hC, hw, hK, hR, hB⟩
theorem bgot_upd2 {f : Nat → Int32} {p : Int32} {w t j k : Nat} (ht : t < w) : bgot (upd f t p) w j k = if 8 * j + k = t then decide (¬ p = 0) else bgot f w j k := by
  unfold bgot upd
  by_cases c : 8 * j + k = t
  · rw [if_pos c, if_pos c, decide_eq_true (by omega), Bool.true_and]
  · rw [if_neg c, if_neg c]
theorem setb_step {lf p : Int32} {wr : Rw} {bm : Bm} {w t : Nat} (hl : isB lf) (hp : isB p) (ht : t < w) (hw : w ≤ 4800) (hR : Rr lf wr bm w) : Rr lf (FX0_setBit lf wr (nI t) p) (upd bm.1 t p, bm.2.1, bm.2.2.1, bm.2.2.2.1, bm.2.2.2.2) w := by
  obtain ⟨h1, h2, h3, h4⟩ := hR
  rw [q_setBit (by omega)]
  refine ⟨h1, ?_, fun j hj => ?_, h4⟩
  · show (if wr.2 < nI (t / 8 + 1) then nI (t / 8 + 1) else wr.2) = _
    rw [h2, if_neg (by rw [nI_ltI (by omega) (by omega)]; omega)]
  · show upd wr.1 (t / 8) _ j = bo lf (bgot (upd bm.1 t p) w j)
    by_cases c : j = t / 8
    · subst c
      rw [pk_us, h3 _ hj, bo_set hl hp _ (by omega)]
      refine bo_congr fun k hk => ?_
      rw [bgot_upd2 ht]; unfold gs
      by_cases d : k = t % 8
      · rw [if_pos d, if_pos (by omega)]
      · rw [if_neg d, if_neg (by omega)]
    · rw [pk_un c, h3 _ hj]
      refine bo_congr fun k hk => ?_
      rw [bgot_upd2 ht, if_neg (by omega)]
theorem pat_mstep {st lo th : Int32} {bm : Bm} {km : Rw} {qm : Tk} {bd : Int32} {ym : Tk} {p0 p1 p2 ws : Int32} {n a b i : Nat} (ha : p0 = nI a) (hb : p1 = nI b) (ha2 : a ≤ 4800) (hb2 : b ≤ 32) (hi : i < b) :
    LX3_patch_69 st lo (n + 1) th bm km qm bd ym p0 p1 p2 ws (nI i) = LX3_patch_69 st lo n th (upd bm.1 (a + i) (vbit p2 (fsh lo p1 (nI i))), bm.2.1, bm.2.2.1, bm.2.2.2.1, bm.2.2.2.2) km qm bd ym p0 p1 p2 (if bm.1 (a + i) = 0 then ws else ws ||| ((1 : Int32) <<< (fsh lo p1 (nI i) &&& 31))) (nI (i + 1)) := by
  rw [LX3_patch_69]
  rw [if_neg (by rw [hb, nI_leI (by omega) (by omega)]; omega)]
  dsimp only
  rw [ha, nI_add, nI_clamp (by omega), nI_1]
  have hx : ∀ x : Int32, isB x → ¬ x = 1 → x = 0 := fun x h q => by rcases h with h | h; exact h; exact absurd h q
  have n0 : vp_nar .boolean 0 = 0 := rfl
  have n1 : vp_nar .boolean 1 = 1 := rfl
  unfold fsh
  by_cases c : lo = 0
  · simp only [if_pos c]
    by_cases g : bm.1 (a + i) = 0
    · rw [if_pos g, if_pos g]
      by_cases d : ((p2.toUInt32 >>> (((p1 - 1) - nI i).toUInt32 &&& Int32.toUInt32 31)).toInt32) &&& 1 = 1
      · rw [if_pos d]; unfold vbit; rw [d, n1]
      · rw [if_neg d]; unfold vbit; rw [hx _ (and1 _) d, n0]
    · rw [if_neg g, if_neg g]
      by_cases d : ((p2.toUInt32 >>> (((p1 - 1) - nI i).toUInt32 &&& Int32.toUInt32 31)).toInt32) &&& 1 = 1
      · rw [if_pos d]; unfold vbit; rw [d, n1]
      · rw [if_neg d]; unfold vbit; rw [hx _ (and1 _) d, n0]
  · simp only [if_neg c]
    by_cases g : bm.1 (a + i) = 0
    · rw [if_pos g, if_pos g]
      by_cases d : ((p2.toUInt32 >>> ((nI i).toUInt32 &&& Int32.toUInt32 31)).toInt32) &&& 1 = 1
      · rw [if_pos d]; unfold vbit; rw [d, n1]
      · rw [if_neg d]; unfold vbit; rw [hx _ (and1 _) d, n0]
    · rw [if_neg g, if_neg g]
      by_cases d : ((p2.toUInt32 >>> ((nI i).toUInt32 &&& Int32.toUInt32 31)).toInt32) &&& 1 = 1
      · rw [if_pos d]; unfold vbit; rw [d, n1]
      · rw [if_neg d]; unfold vbit; rw [hx _ (and1 _) d, n0]
theorem pat_loop {st lf ao sib th : Int32} {tw : Tk} {cr : Rw} {tr : Tk} {bad : Int32} {km : Rw} {qm : Tk} {bd : Int32} {ym : Tk} {p0 p1 p2 : Int32} {a b w : Nat} (hl : isB lf) (ha : p0 = nI a) (hb : p1 = nI b) (hb2 : b ≤ 32) (hab : a + b ≤ w) (hw : w ≤ 4800) :
    ∀ (n i : Nat) (wr : Rw) (bm : Bm) (bf : Int32), b - i < n → i ≤ b → Rr lf wr bm w →
    ∃ x wr' bm', LX2_patch_54 st lf ao sib n wr tw cr tr bad p0 p1 p2 bf (nI i) = Sum.inr (x, wr') ∧ LX3_patch_69 st lf n th bm km qm bd ym p0 p1 p2 bf (nI i) = (x, th, bm') ∧ Rr lf wr' bm' w ∧ bm'.2.2.1 = bm.2.2.1 := by
  intro n
  induction n with
  | zero => intro i wr bm bf h; omega
  | succ n ih =>
    intro i wr bm bf hn hi hR
    by_cases c : b ≤ i
    · refine ⟨bf, wr, bm, ?_, ?_, hR, rfl⟩
      · rw [LX2_patch_54, if_pos (by rw [hb]; exact nI_le c (by omega))]
      · rw [LX3_patch_69, if_pos (by rw [hb]; exact nI_le c (by omega))]
    · rw [pat_mstep ha hb (by omega) hb2 (by omega)]
      rw [LX2_patch_54, if_neg (by rw [hb, nI_leI (by omega) (by omega)]; exact c)]
      dsimp only
      have hbit : ((p2.toUInt32 >>> ((FX2_shiftOf st lf ao sib wr tw cr tr bad (nI i) p1).toUInt32 &&& Int32.toUInt32 31)).toInt32) &&& 1 = vbit p2 (fsh lf p1 (nI i)) := rfl
      have hsh : FX2_shiftOf st lf ao sib wr tw cr tr bad (nI i) p1 = fsh lf p1 (nI i) := rfl
      rw [hbit, hsh]
      have hget : bf ||| (FX0_bitOf lf wr (p0 + nI i) <<< (fsh lf p1 (nI i) &&& 31)) = if bm.1 (a + i) = 0 then bf else bf ||| ((1 : Int32) <<< (fsh lf p1 (nI i) &&& 31)) := by
        rw [ha, nI_add, q_bitOf (by omega), hR.2.2.1 _ (by omega), bo_get hl _ (by omega)]
        unfold bgot
        rw [decide_eq_true (by omega), Bool.true_and, show 8 * ((a + i) / 8) + (a + i) % 8 = a + i by omega]
        by_cases g : bm.1 (a + i) = 0
        · rw [if_pos g, decide_eq_false (fun q => q g)]
          show bf ||| ((0 : Int32) <<< _) = bf
          rw [Int32.zero_shiftLeft, Int32.or_zero]
        · rw [if_neg g, decide_eq_true g]; rfl
      rw [hget, ha, nI_add, nI_1, ← ha]
      exact ih (i + 1) _ _ _ (by omega) (by omega) (setb_step hl (and1 _) (by omega) hw hR)
theorem sim_patch {st lf ao sib : Int32} {wr : Rw} {tw : Tk} {cr : Rw} {tr : Tk} {bad th : Int32} {bm : Bm} {km : Rw} {qm : Tk} {bd : Int32} {ym : Tk} {ov : Nat → Int64} {p0 p1 p2 : Int32} {r1 : Int32} {r2 : Int32} {wr' : Rw} {ov' : Nat → Int64} {th' : Int32} {bm' : Bm} (hI : Inv st lf ao sib wr tw cr tr bad th bm km qm bd ym) (e1 : (r1, wr', ov') = FL_patch st lf ao sib wr tw cr tr bad ov p0 p1 p2) (e2 : (r2, th', bm') = FX3_patch st lf th bm km qm bd ym p0 p1 p2) : th' = r1 ∧ (r1 = 0 → ov' (0 : Int32).toNatClampNeg = r2.toInt64) ∧ Inv st lf ao sib wr' tw cr tr bad th' bm' km qm bd ym := by
  obtain ⟨hC, hw, hK, hR, hB⟩ := id hI
  obtain ⟨c1, c2, c3, c4, c5, c6⟩ := id hC
  obtain ⟨w, me, h1, hW⟩ := invW_to hw
  unfold FL_patch FX2_patch at e1
  unfold FX3_patch LX3_patch_51 at e2
  dsimp only at e2
  by_cases s1 : st = 0
  · rw [if_pos s1, q_wid] at e1
    rw [if_pos s1, q_in32] at e2
    by_cases a : 1 ≤ p1.toInt ∧ p1.toInt ≤ 32
    · rw [if_pos a] at e1 e2
      rw [if_neg (by decide)] at e2
      simp only [xbind] at e1
      obtain ⟨b, hb0, hb, hb3⟩ := tiN (x := p1) (by omega)
      have hneg : p0 < 0 ↔ p0.toInt < 0 := by rw [ltI, i0]
      by_cases d : p0.toInt < 0
      · rw [if_pos (hneg.mpr d)] at e1 e2
        rw [if_neg (by decide)] at e2
        simp only [xcase] at e1
        rw [if_neg (by decide), if_neg (by decide)] at e1
        simp only [Prod.mk.injEq] at e1 e2
        obtain ⟨rfl, rfl, rfl⟩ := e1
        obtain ⟨rfl, rfl, rfl⟩ := e2
        exact ⟨rfl, fun q => absurd q (by decide), hC, hw, hK, hR, hB⟩
      · rw [if_neg (fun q => d (hneg.mp q))] at e1 e2
        obtain ⟨x, hx0, hx, hx3⟩ := tiN (x := p0) (by omega)
        have hle : p0 ≤ tw.1 - p1 ↔ x + b ≤ w := by
          rw [leI, hW.2.2.1, hb, pk_sub_toInt (by omega) (by omega), hx3]; omega
        have hle2 : lg_cmp (p0.toInt64 + p1.toInt64) bm.2.1.toInt64 ≤ 0 ↔ x + b ≤ w := by
          rw [hW.1.1, hx, hb, nI_l hx0, nI_l hb0, lN_add, nI_l (by omega)]
          have g1 : (lN (x + b)).toInt = ((x + b : Nat) : Int) := pk_lT (by omega)
          have g2 : (lN w).toInt = (w : Int) := pk_lT (by omega)
          rcases cmp3 (lN (x + b)) (lN w) with ⟨g, f⟩ | ⟨g, f⟩ | ⟨g, f⟩
          · rw [f]; exact ⟨fun _ => by omega, fun _ => by decide⟩
          · rw [f]; exact ⟨fun _ => by omega, fun _ => by decide⟩
          · rw [f]; exact ⟨fun q => absurd q (by decide), fun q => by omega⟩
        by_cases g : x + b ≤ w
        · rw [if_pos (hle.mpr g)] at e1
          rw [if_pos (hle2.mpr g), if_pos (by decide)] at e2
          obtain ⟨y, wr2, bm2, q1, q2, q3, q4⟩ := pat_loop (st := st) (ao := ao) (sib := sib) (th := 0) (tw := tw) (cr := cr) (tr := tr) (bad := bad) (km := km) (qm := qm) (bd := bd) (ym := ym) (p2 := p2) c3 hx hb (by omega) g h1 (b + 1) 0 wr bm 0 (by omega) (by omega) hW.1
          have hfz : fz 0 p1 = b + 1 := by rw [hb]; exact fz_n (by omega)
          rw [hfz] at e1 e2
          have q1' : LX2_patch_54 st lf ao sib (b + 1) wr tw cr tr bad p0 p1 p2 0 0 = Sum.inr (y, wr2) := q1
          have q2' : LX3_patch_69 st lf (b + 1) 0 bm km qm bd ym p0 p1 p2 0 0 = (y, 0, bm2) := q2
          rw [q1'] at e1
          rw [q2'] at e2
          simp only [xcase, Prod.mk.injEq] at e1 e2
          obtain ⟨rfl, rfl, rfl⟩ := e1
          obtain ⟨rfl, rfl, rfl⟩ := e2
          refine ⟨rfl, fun _ => pk_uLs, hC, invW_of (w := w) (me := me) h1 ⟨q3, hW.2.1, hW.2.2.1, hW.2.2.2.1, ?_, ?_, ?_⟩, hK, hR, hB⟩
          · rw [q4]; exact hW.2.2.2.2.1
          · intro q; rw [s1] at q; exact absurd q (by decide)
          · intro q; rw [s1] at q; exact absurd q (by decide)
        · rw [if_neg (fun q => g (hle.mp q))] at e1
          rw [if_neg (fun q => g (hle2.mp q)), if_neg (by decide)] at e2
          simp only [xcase] at e1
          rw [if_neg (by decide), if_neg (by decide)] at e1
          simp only [Prod.mk.injEq] at e1 e2
          obtain ⟨rfl, rfl, rfl⟩ := e1
          obtain ⟨rfl, rfl, rfl⟩ := e2
          exact ⟨rfl, fun q => absurd q (by decide), hC, hw, hK, hR, hB⟩
    · rw [if_neg a] at e1 e2
      rw [if_pos rfl, if_neg (by decide)] at e2
      simp only [xbind, xcase] at e1
      rw [if_neg (by decide), if_pos trivial] at e1
      simp only [Prod.mk.injEq] at e1 e2
      obtain ⟨rfl, rfl, rfl⟩ := e1
      obtain ⟨rfl, rfl, rfl⟩ := e2
      exact ⟨rfl, fun q => absurd q (by decide), hC, hw, hK, hR, hB⟩
  · rw [if_neg s1] at e1 e2
    rw [if_neg (by decide)] at e2
    simp only [xcase] at e1
    rw [if_pos trivial] at e1
    simp only [Prod.mk.injEq] at e1 e2
    obtain ⟨rfl, rfl, rfl⟩ := e1
    obtain ⟨rfl, rfl, rfl⟩ := e2
    exact ⟨rfl, fun q => absurd q (by decide), hC, hw, hK, hR, hB⟩
