/-! THE WRITING CALLS -/
theorem cmp3 (x y : Int64) : (x.toInt < y.toInt ∧ lg_cmp x y = -1) ∨ (x.toInt = y.toInt ∧ lg_cmp x y = 0) ∨ (y.toInt < x.toInt ∧ lg_cmp x y = 1) := by
  unfold lg_cmp
  by_cases c : x > y
  · exact Or.inr (Or.inr ⟨Int64.lt_iff_toInt_lt.mp c, if_pos c⟩)
  · by_cases d : x = y
    · rw [if_neg c, if_pos d]; exact Or.inr (Or.inl ⟨by rw [d], rfl⟩)
    · rw [if_neg c, if_neg d]
      refine Or.inl ⟨?_, rfl⟩
      have c2 : ¬ y.toInt < x.toInt := fun q => c (Int64.lt_iff_toInt_lt.mpr q)
      have d2 : ¬ x.toInt = y.toInt := fun q => d (Int64.toInt_inj.mp q)
      omega
theorem q_isIn (p a b : Int64) : FX3_isIn p a b = if (a.toInt ≤ p.toInt ∧ p.toInt ≤ b.toInt) then 1 else 0 := by
  unfold FX3_isIn
  rcases cmp3 p a with ⟨c, e⟩ | ⟨c, e⟩ | ⟨c, e⟩
  · rw [e, if_pos (by decide), if_neg (by omega)]
  · rw [e, if_neg (by decide)]
    rcases cmp3 p b with ⟨d, f⟩ | ⟨d, f⟩ | ⟨d, f⟩
    · rw [f, if_neg (by decide), if_pos (by omega)]
    · rw [f, if_neg (by decide), if_pos (by omega)]
    · rw [f, if_pos (by decide), if_neg (by omega)]
  · rw [e, if_neg (by decide)]
    rcases cmp3 p b with ⟨d, f⟩ | ⟨d, f⟩ | ⟨d, f⟩
    · rw [f, if_neg (by decide), if_pos (by omega)]
    · rw [f, if_neg (by decide), if_pos (by omega)]
    · rw [f, if_pos (by decide), if_neg (by omega)]
theorem q_in32 (p : Int32) : FX3_isIn p.toInt64 1 32 = if (1 ≤ p.toInt ∧ p.toInt ≤ 32) then 1 else 0 := by
  rw [q_isIn, Int32.toInt_toInt64, show (1 : Int64).toInt = 1 from rfl, show (32 : Int64).toInt = 32 from rfl]
theorem q_wid (p : Int32) : FX2_refuseOtherWidths p = if (1 ≤ p.toInt ∧ p.toInt ≤ 32) then Sum.inr () else Sum.inl "java/lang/IllegalArgumentException" := by
  unfold FX2_refuseOtherWidths
  have e1 : p < 1 ↔ p.toInt < 1 := by rw [ltI, j1]
  have e2 : p ≤ 32 ↔ p.toInt ≤ 32 := by rw [leI, show (32 : Int32).toInt = 32 from rfl]
  by_cases c : p.toInt < 1
  · rw [if_pos (e1.mpr c), if_neg (by omega)]
  · rw [if_neg (fun q => c (e1.mp q))]
    by_cases d : p.toInt ≤ 32
    · rw [if_pos (e2.mpr d), if_pos (by omega)]
    · rw [if_neg (fun q => d (e2.mp q)), if_neg (by omega)]
theorem q_fullI {w b : Nat} (hw : w ≤ 4800) (hb : b ≤ 40) : ((nI w + (2 * nI b)) + 16) ≤ 4800 ↔ w + 2 * b + 16 ≤ 4800 := by
  rw [show (2 : Int32) = nI 2 from rfl, show (16 : Int32) = nI 16 from rfl, show (4800 : Int32) = nI 4800 from rfl, pk_mul, nI_add, nI_add, nI_leI (by omega) (by omega)]
theorem fz_n {b : Nat} (hb : b < 2 ^ 31) : fz 0 (nI b) = b + 1 := by
  unfold fz; rw [nI_toInt hb, i0]; omega
theorem sim_put {st lf ao sib : Int32} {wr : Rw} {tw : Tk} {cr : Rw} {tr : Tk} {bad th : Int32} {bm : Bm} {km : Rw} {qm : Tk} {bd : Int32} {ym : Tk} {ov : Nat → Int64} {p0 p1 : Int32} {r1 : Int32} {r2 : Int32} {wr' : Rw} {tw' : Tk} {ov' : Nat → Int64} {th' : Int32} {bm' : Bm} (hI : Inv st lf ao sib wr tw cr tr bad th bm km qm bd ym) (e1 : (r1, wr', tw', ov') = FL_put st lf ao sib wr tw cr tr bad ov p0 p1) (e2 : (r2, th', bm') = FX3_put st lf th bm km qm bd ym p0 p1) : th' = r1 ∧ (r1 = 0 → ov' (0 : Int32).toNatClampNeg = r2.toInt64) ∧ Inv st lf ao sib wr' tw' cr tr bad th' bm' km qm bd ym := by
  obtain ⟨hC, hw, hK, hR, hB⟩ := id hI
  obtain ⟨c1, c2, c3, c4, c5, c6⟩ := id hC
  obtain ⟨w, me, h1, hW⟩ := invW_to hw
  unfold FL_put FX2_put at e1
  unfold FX3_put at e2
  rw [q_wid] at e1
  rw [q_in32] at e2
  dsimp only at e2
  by_cases a : 1 ≤ p0.toInt ∧ p0.toInt ≤ 32
  · rw [if_pos a] at e1 e2
    rw [if_neg (by decide)] at e2
    obtain ⟨b, hb0, hb, hb3⟩ := tiN (x := p0) (by omega)
    unfold FX2_refuseToOverfill at e1
    unfold FX3_isFull at e2
    rw [hW.2.2.1, hb] at e1
    rw [hW.1.1, hb] at e2
    by_cases f : w + 2 * b + 16 ≤ 4800
    · rw [if_pos ((q_fullI h1 (by omega)).mpr f)] at e1 e2
      rw [if_pos rfl] at e2
      unfold LX3_put_30 at e2
      rw [if_pos (by decide)] at e2
      rw [fz_n (by omega)] at e1 e2
      obtain ⟨w1, a1, a2, a5, a3, a4⟩ := pre_step (ao := ao) (cr := cr) (tr := tr) (bad := bad) (th := 0) (km := km) (qm := qm) (bd := bd) (ym := ym) c1 c3 c6 (by omega) hW
      have em : LX3_put_47 st lf (b + 1) 0 bm km qm bd ym (nI b) p1 0 0 = LX3_put_47 st lf (b + 1) 0 (mpre st lf 0 bm km qm bd ym) km qm bd ym (nI b) p1 0 0 := by
        rw [show LX3_put_47 st lf (b + 1) 0 bm km qm bd ym (nI b) p1 0 0 = LX3_put_47 st lf (b + 1) 0 bm km qm bd ym (nI b) p1 0 (nI 0) from rfl, put_mstep rfl (by omega) (by omega)]
        rw [show LX3_put_47 st lf (b + 1) 0 (mpre st lf 0 bm km qm bd ym) km qm bd ym (nI b) p1 0 0 = LX3_put_47 st lf (b + 1) 0 (mpre st lf 0 bm km qm bd ym) km qm bd ym (nI b) p1 0 (nI 0) from rfl, put_mstep rfl (by omega) (by omega)]
        rw [putBit_pre, putBit_pre (bm := mpre st lf 0 bm km qm bd ym), mpre_nd a3.1.1 (by omega) a4]
      rw [em] at e2
      have hpl : (FX2_writeStuffedIfDue st lf ao sib wr tw cr tr bad).2.1 = nI w1 := a3.2.2.1
      obtain ⟨wr2, tw2, bm2, w2, q1, q2, q3, q4⟩ := put_loop (ao := ao) (cr := cr) (tr := tr) (bad := bad) (th := 0) (km := km) (qm := qm) (bd := bd) (ym := ym) (p0 := nI b) (p1 := p1) c1 c2 c3 c5 c6 rfl (by omega) (by omega) (b + 1) 0 w1 _ _ _ (nI w1) 0 (by omega) (by omega) (by omega) a3 (fun _ => ⟨rfl, a4⟩) (fun q => absurd q (by omega))
      have q1' : LX2_put_24 st lf ao sib (b + 1) (FX2_writeStuffedIfDue st lf ao sib wr tw cr tr bad).1 (FX2_writeStuffedIfDue st lf ao sib wr tw cr tr bad).2 cr tr bad (nI b) p1 (nI w1) 0 = Sum.inr (nI w1, wr2, tw2) := q1
      have q2' : LX3_put_47 st lf (b + 1) 0 (mpre st lf 0 bm km qm bd ym) km qm bd ym (nI b) p1 0 0 = (nI w1, 0, bm2) := q2
      rw [q2'] at e2
      simp only [xbind, hpl] at e1
      rw [q1'] at e1
      simp only [xcase, Prod.mk.injEq] at e1 e2
      obtain ⟨rfl, rfl, rfl, rfl⟩ := e1
      obtain ⟨rfl, rfl, rfl⟩ := e2
      exact ⟨rfl, fun _ => pk_uLs, hC, invW_of q3 q4, hK, hR, hB⟩
    · rw [if_neg (fun q => f ((q_fullI h1 (by omega)).mp q))] at e1 e2
      rw [if_neg (by decide)] at e2
      unfold LX3_put_30 at e2
      rw [if_neg (by decide)] at e2
      simp only [xbind, xcase] at e1
      rw [if_neg (by decide)] at e1
      simp only [Prod.mk.injEq] at e1 e2
      obtain ⟨rfl, rfl, rfl, rfl⟩ := e1
      obtain ⟨rfl, rfl, rfl⟩ := e2
      exact ⟨rfl, fun q => absurd q (by decide), hC, hw, hK, hR, hB⟩
  · rw [if_neg a] at e1 e2
    rw [if_pos rfl] at e2
    unfold LX3_put_30 at e2
    rw [if_neg (by decide)] at e2
    simp only [xbind, xcase, if_true] at e1
    simp only [Prod.mk.injEq] at e1 e2
    obtain ⟨rfl, rfl, rfl, rfl⟩ := e1
    obtain ⟨rfl, rfl, rfl⟩ := e2
    exact ⟨rfl, fun q => absurd q (by decide), hC, hw, hK, hR, hB⟩
theorem sim_align {st lf ao sib : Int32} {wr : Rw} {tw : Tk} {cr : Rw} {tr : Tk} {bad th : Int32} {bm : Bm} {km : Rw} {qm : Tk} {bd : Int32} {ym : Tk} {ov : Nat → Int64}  {r1 : Int32} {r2 : Int32} {wr' : Rw} {tw' : Tk} {ov' : Nat → Int64} {th' : Int32} {bm' : Bm} (hI : Inv st lf ao sib wr tw cr tr bad th bm km qm bd ym) (e1 : (r1, wr', tw', ov') = FL_align st lf ao sib wr tw cr tr bad ov) (e2 : (r2, th', bm') = FX3_align st lf th bm km qm bd ym) : th' = r1 ∧ (r1 = 0 → ov' (0 : Int32).toNatClampNeg = r2.toInt64) ∧ Inv st lf ao sib wr' tw' cr tr bad th' bm' km qm bd ym := by
  obtain ⟨hC, hw, hK, hR, hB⟩ := id hI
  obtain ⟨c1, c2, c3, c4, c5, c6⟩ := id hC
  obtain ⟨w, me, h1, hW⟩ := invW_to hw
  unfold FL_align FX2_align FX2_refuseToOverfill FX2_writeTillAligned at e1
  unfold FX3_align FX3_isFull FX3_alignAll at e2
  dsimp only at e2
  rw [hW.2.2.1] at e1
  rw [hW.1.1] at e2
  have hf : ((nI w + (2 * 16)) + 16) ≤ 4800 ↔ w + 2 * 16 + 16 ≤ 4800 := q_fullI (b := 16) h1 (by decide)
  by_cases f : w + 2 * 16 + 16 ≤ 4800
  · rw [if_pos (hf.mpr f)] at e1 e2
    rw [if_pos rfl] at e2
    obtain ⟨wr2, tw2, bm2, w2, z, q1, q2, q3, q4, q5, -⟩ := al_loop (ao := ao) (cr := cr) (tr := tr) (bad := bad) (th := 0) (km := km) (qm := qm) (bd := bd) (ym := ym) c1 c2 c3 c5 c6 17 8 0 w wr tw bm 0 hW mu8 (by omega) (by omega) h1 (fun _ => by omega)
    have q1' : LX2_writeTillAligned_4 st lf ao sib 17 wr tw cr tr bad 0 0 = (z, wr2, tw2) := q1
    simp only [xbind, xcase] at e1
    rw [q1'] at e1
    rw [q2] at e2
    simp only [Prod.mk.injEq] at e1 e2
    obtain ⟨rfl, rfl, rfl, rfl⟩ := e1
    obtain ⟨rfl, rfl, rfl⟩ := e2
    exact ⟨rfl, fun _ => pk_uLs, hC, invW_of q3 q5, hK, hR, hB⟩
  · rw [if_neg (fun q => f (hf.mp q))] at e1 e2
    rw [if_neg (by decide)] at e2
    simp only [xbind, xcase, Prod.mk.injEq] at e1 e2
    obtain ⟨rfl, rfl, rfl, rfl⟩ := e1
    obtain ⟨rfl, rfl, rfl⟩ := e2
    exact ⟨rfl, fun q => absurd q (by decide), hC, hw, hK, hR, hB⟩
