/-! ONE BIT WRITTEN -/
def Wv (st lf : Int32) (wr : Rw) (tw : Tk) (bm : Bm) (w me : Nat) : Prop :=
  Rr lf wr bm w ∧ 8 * me ≤ w ∧ tw.1 = nI w ∧ tw.2.2.2 = nI me ∧ tw.2.1 = bm.2.2.1 ∧
  (1 < st.toInt → tw.2.2.1 = bm.2.2.2.1 ∧ 0 ≤ tw.2.2.1.toInt ∧ tw.2.2.1.toInt < st.toInt) ∧
  (st = 1 → Fa wr bm w me ∧ (¬ lf = 0 → ¬ (w % 8 = 7 ∧ ¬ bm.2.2.2.2 = 0)))
/-- the bit that waited is not due -/
def Nd (st lf : Int32) (bm : Bm) (w : Nat) : Prop := st = 1 → lf = 0 → ¬ (w % 8 = 0 ∧ ¬ bm.2.2.2.2 = 0)
def mpre (st lf th : Int32) (bm : Bm) (km : Rw) (qm : Tk) (bd : Int32) (ym : Tk) : Bm := if st = 1 ∧ lf = 0 ∧ ¬ bm.2.2.2.2 = 0 ∧ bm.2.1 - bm.2.1 / 8 * 8 = 0 then FX3_stuff st lf th bm km qm bd ym else bm
theorem putBit_pre {st lf th : Int32} {bm : Bm} {km : Rw} {qm : Tk} {bd : Int32} {ym : Tk} {p : Int32} : FX3_putBit st lf th bm km qm bd ym p = LX3_putBit_36 st lf th (mpre st lf th bm km qm bd ym) km qm bd ym p := by
  unfold FX3_putBit mpre
  dsimp only
  by_cases c1 : st = 1
  · rw [if_pos c1]
    by_cases c2 : lf = 0
    · rw [if_pos c2]
      by_cases c3 : bm.2.2.2.2 = 0
      · rw [if_pos c3, if_neg (fun q => q.2.2.1 c3)]
      · rw [if_neg c3]
        by_cases c4 : bm.2.1 - bm.2.1 / 8 * 8 = 0
        · rw [if_pos c4, if_pos ⟨c1, c2, c3, c4⟩]
        · rw [if_neg c4, if_neg (fun q => c4 q.2.2.2)]
    · rw [if_neg c2, if_neg (fun q => c2 q.2.1)]
  · rw [if_neg c1, if_neg (fun q => c1 q.1)]
theorem mpre_nd {st lf th : Int32} {bm : Bm} {km : Rw} {qm : Tk} {bd : Int32} {ym : Tk} {w : Nat} (hw : bm.2.1 = nI w) (h : w ≤ 5200) (hn : Nd st lf bm w) : mpre st lf th bm km qm bd ym = bm := by
  unfold mpre
  rw [if_neg]
  intro ⟨a, b, c, d⟩
  rw [hw, q_rm8 (by omega), q_z (by omega)] at d
  exact hn a b ⟨d, c⟩
/-- a stuffed bit, on both sides -/
theorem stuff_step {st lf th : Int32} {wr : Rw} {bm : Bm} {km : Rw} {qm : Tk} {bd : Int32} {ym : Tk} {w : Nat} (hl : isB lf) (h : w < 4800) (hR : Rr lf wr bm w) :
    Rr lf (FX0_setBit lf wr (nI w) 0) (FX3_stuff st lf th bm km qm bd ym) (w + 1) ∧ (∀ me, 8 * me ≤ w → Fa wr bm w me → Fa (FX0_setBit lf wr (nI w) 0) (FX3_stuff st lf th bm km qm bd ym) (w + 1) me) ∧
    (FX3_stuff st lf th bm km qm bd ym).2.2.1 = bm.2.2.1 + 1 ∧ (FX3_stuff st lf th bm km qm bd ym).2.2.2.1 = bm.2.2.2.1 := by
  unfold FX3_stuff
  exact add_step (bm := (bm.1, bm.2.1, bm.2.2.1 + 1, bm.2.2.2.1, bm.2.2.2.2)) hl (Or.inl rfl) h hR
theorem pre_step {st lf ao sib th : Int32} {wr : Rw} {tw : Tk} {cr : Rw} {tr : Tk} {bad : Int32} {bm : Bm} {km : Rw} {qm : Tk} {bd : Int32} {ym : Tk} {w me : Nat} (h0 : 0 ≤ st.toInt) (hl : isB lf) (hs : sib = if lf = 0 then 0 else 7) (h : w < 4800) (hW : Wv st lf wr tw bm w me) :
    ∃ w', w ≤ w' ∧ w' ≤ w + 1 ∧ (w' = w ∨ (st = 1 ∧ lf = 0)) ∧ Wv st lf (FX2_writeStuffedIfDue st lf ao sib wr tw cr tr bad).1 (FX2_writeStuffedIfDue st lf ao sib wr tw cr tr bad).2 (mpre st lf th bm km qm bd ym) w' me ∧ Nd st lf (mpre st lf th bm km qm bd ym) w' := by
  have hd := q_due (rs := wr) h0 hs hW.2.2.1 hW.2.2.2.1 (by omega) hW.2.1
  obtain ⟨hR, hm, h1, h2, h3, h4, h5⟩ := id hW
  unfold FX2_writeStuffedIfDue
  dsimp only
  by_cases c : FX1_isStuffedDue st sib lf tw wr = 0
  · rw [if_pos c]
    have hn : Nd st lf bm w := by
      intro a b ⟨d, e⟩
      refine hd.mpr (Or.inr ⟨a, ?_, (h5 a).1.mp e⟩) c
      rw [if_pos b]; exact d
    rw [mpre_nd hR.1 (by omega) hn]
    exact ⟨w, by omega, by omega, Or.inl rfl, hW, hn⟩
  · rw [if_neg c]
    have hq := hd.mp c
    rcases hq with hq | ⟨a, b, d⟩
    · exact absurd hq.2 (fun e => by have := (h4 hq.1).2.2; rw [e] at this; omega)
    · have haf := (h5 a).1.mpr d
      have hlf : lf = 0 := by
        by_cases e : lf = 0
        · exact e
        · rw [if_neg e] at b; exact absurd ⟨b, haf⟩ ((h5 a).2 e)
      rw [if_pos hlf] at b
      have hm2 : mpre st lf th bm km qm bd ym = FX3_stuff st lf th bm km qm bd ym := by
        unfold mpre
        rw [if_pos]
        refine ⟨a, hlf, haf, ?_⟩
        rw [hR.1, q_rm8 (by omega), b]; rfl
      rw [hm2]
      obtain ⟨s1, s2, s3, s4⟩ := stuff_step (st := st) (th := th) (km := km) (qm := qm) (bd := bd) (ym := ym) hl h hR
      rw [h1]
      refine ⟨w + 1, by omega, by omega, Or.inr ⟨a, hlf⟩, ⟨s1, by omega, ?_, h2, ?_, ?_, ?_⟩, ?_⟩
      · show tw.1 + 1 = _; rw [h1, nI_1]
      · show tw.2.1 + 1 = _; rw [s3, h3]
      · intro e; rw [a] at e; exact absurd e (by decide)
      · intro _; exact ⟨s2 me hm (h5 a).1, fun e => absurd hlf e⟩
      · intro _ _ e; omega
theorem pre_nd {st lf ao sib : Int32} {wr : Rw} {tw : Tk} {cr : Rw} {tr : Tk} {bad : Int32} {bm : Bm} {w me : Nat} (h0 : 0 ≤ st.toInt) (hs : sib = if lf = 0 then 0 else 7) (h : w ≤ 4800) (hW : Wv st lf wr tw bm w me) (hn : Nd st lf bm w) :
    FX2_writeStuffedIfDue st lf ao sib wr tw cr tr bad = (wr, tw) := by
  have hd := q_due (rs := wr) h0 hs hW.2.2.1 hW.2.2.2.1 (by omega) hW.2.1
  obtain ⟨hR, hm, h1, h2, h3, h4, h5⟩ := id hW
  unfold FX2_writeStuffedIfDue
  dsimp only
  rw [if_pos]
  by_cases c : FX1_isStuffedDue st sib lf tw wr = 0
  · exact c
  · rcases hd.mp c with hq | ⟨a, b, d⟩
    · exact absurd hq.2 (fun e => by have := (h4 hq.1).2.2; rw [e] at this; omega)
    · have haf := (h5 a).1.mpr d
      by_cases e : lf = 0
      · rw [if_pos e] at b; exact absurd ⟨b, haf⟩ (hn a e)
      · rw [if_neg e] at b; exact absurd ⟨b, haf⟩ ((h5 a).2 e)
/-- the bit itself and what is stuffed behind it -/
theorem bit_step {st lf ao sib th : Int32} {wr : Rw} {tw : Tk} {cr : Rw} {tr : Tk} {bad : Int32} {bm : Bm} {km : Rw} {qm : Tk} {bd : Int32} {ym : Tk} {p : Int32} {w me : Nat} (h0 : 0 ≤ st.toInt) (h16 : st.toInt ≤ 16) (hl : isB lf) (hao : ao = 0 ↔ (lf = 0 ∧ st = 1)) (hs : sib = if lf = 0 then 0 else 7) (hp : isB p) (h : w + 2 ≤ 4800) (hW : Wv st lf wr tw bm w me) (hn : Nd st lf bm w) :
    ∃ w', w + 1 ≤ w' ∧ w' ≤ w + 2 ∧ Wv st lf (FX2_writeBit st lf ao sib wr tw cr tr bad p).1 (FX2_writeBit st lf ao sib wr tw cr tr bad p).2 (LX3_putBit_36 st lf th bm km qm bd ym p).2 w' me ∧ (LX3_putBit_36 st lf th bm km qm bd ym p).1 = nI w ∧ (st = 1 → lf = 0 → w' = w + 1) := by
  have hpre := pre_nd (ao := ao) (cr := cr) (tr := tr) (bad := bad) h0 hs (by omega) hW hn
  obtain ⟨hR, hm, h1, h2, h3, h4, h5⟩ := id hW
  obtain ⟨s1, s2, s3, s4⟩ := add_step (st := st) (th := th) (km := km) (qm := qm) (bd := bd) (ym := ym) (w := w) hl hp (by omega) hR
  unfold FX2_writeBit LX3_putBit_36
  dsimp only
  rw [hpre]
  dsimp only
  rw [h1]
  generalize hu : FX0_setBit lf wr (nI w) p = u at s1 s2 ⊢
  generalize hv : FX3_add st lf th bm km qm bd ym p = v at s1 s2 s3 s4 ⊢
  -- the track behind the bit
  have hk1 : (FX1_stepOver st sib lf tw u p).1 = nI (w + 1) := by unfold FX1_stepOver; dsimp only; split <;> (show tw.1 + 1 = _; rw [h1, nI_1])
  have hk2 : (FX1_stepOver st sib lf tw u p).2.2.2 = nI me := by unfold FX1_stepOver; dsimp only; split <;> exact h2
  have hk3 : (FX1_stepOver st sib lf tw u p).2.1 = bm.2.2.1 := by unfold FX1_stepOver; dsimp only; split <;> exact h3
  have hk4 : (FX1_stepOver st sib lf tw u p).2.2.1 = if p = 1 then tw.2.2.1 + 1 else 0 := by unfold FX1_stepOver; dsimp only; split <;> rfl
  generalize FX1_stepOver st sib lf tw u p = k at hk1 hk2 hk3 hk4 ⊢
  have hd := q_due (rs := u) h0 hs hk1 hk2 (by omega) (by omega)
  have ho : ∀ v : Bm, LX3_putBit_84 st lf th v km qm bd ym p bm.2.1 = LX3_putBit_102 st lf th (v.1, v.2.1, v.2.2.1, (if p = 1 then v.2.2.2.1 + 1 else 0), v.2.2.2.2) km qm bd ym p bm.2.1 := by
    intro v; unfold LX3_putBit_84; dsimp only
    rcases hp with rfl | rfl
    · rw [if_pos rfl, if_neg (by decide)]
    · rw [if_neg (by decide), if_pos rfl]
  rcases st_cases h0 with e | e | hb2
  · -- no stuffing
    have hnd : FX1_isStuffedDue st sib lf k u = 0 := by
      by_cases c : FX1_isStuffedDue st sib lf k u = 0
      · exact c
      · rcases hd.mp c with q | q
        · rw [e] at q; exact absurd q.1 (by decide)
        · rw [e] at q; exact absurd q.1 (by decide)
    have e1 : ¬ st = 1 := by rw [e]; decide
    have e2 : st ≤ 1 := by rw [e]; decide
    have hx : (if ao = 0 then (u, k) else ((FX2_writeStuffedIfDue st lf ao sib u k cr tr bad).1, (FX2_writeStuffedIfDue st lf ao sib u k cr tr bad).2)) = (u, k) := by
      unfold FX2_writeStuffedIfDue; dsimp only; rw [if_pos hnd]; split <;> rfl
    rw [hx, if_neg e1, ho]
    unfold LX3_putBit_102
    rw [if_pos e2]
    refine ⟨w + 1, by omega, by omega, ⟨s1, by omega, hk1, hk2, by rw [hk3, s3], ?_, ?_⟩, hR.1, fun q => absurd q e1⟩
    · intro q; rw [e] at q; exact absurd q (by decide)
    · intro q; exact absurd q e1
  · -- by bytes
    have e2 : st ≤ 1 := by rw [e]; decide
    have hF := s2 me hm (h5 e).1
    by_cases hlf : lf = 0
    · rw [if_pos (hao.mpr ⟨hlf, e⟩), if_pos e, if_pos hlf, ho]
      unfold LX3_putBit_102
      rw [if_pos e2]
      refine ⟨w + 1, by omega, by omega, ⟨s1, by omega, hk1, hk2, by rw [hk3, s3], ?_, ?_⟩, hR.1, fun _ _ => rfl⟩
      · intro q; rw [e] at q; exact absurd q (by decide)
      · intro _; exact ⟨hF, fun q => absurd hlf q⟩
    · rw [if_neg (fun q => hlf (hao.mp q).1), if_pos e, if_neg hlf]
      by_cases c : FX1_isStuffedDue st sib lf k u = 0
      · have hx : ((FX2_writeStuffedIfDue st lf ao sib u k cr tr bad).1, (FX2_writeStuffedIfDue st lf ao sib u k cr tr bad).2) = (u, k) := by
          unfold FX2_writeStuffedIfDue; dsimp only; rw [if_pos c]
        rw [hx]
        have hnn : ¬ ((w + 1) % 8 = 7 ∧ ¬ v.2.2.2.2 = 0) := fun q => hd.mpr (Or.inr ⟨e, by rw [if_neg hlf]; exact q.1, hF.mp q.2⟩) c
        have hy : (if v.2.2.2.2 = 0 then LX3_putBit_84 st lf th v km qm bd ym p bm.2.1 else if v.2.1 - v.2.1 / 8 * 8 = 7 then LX3_putBit_84 st lf th (FX3_stuff st lf th v km qm bd ym) km qm bd ym p bm.2.1 else LX3_putBit_84 st lf th v km qm bd ym p bm.2.1) = LX3_putBit_84 st lf th v km qm bd ym p bm.2.1 := by
          by_cases d : v.2.2.2.2 = 0
          · rw [if_pos d]
          · rw [if_neg d, if_neg]
            rw [s1.1, q_rm8 (by omega), q_7 (by omega)]
            exact fun q => hnn ⟨q, d⟩
        rw [hy, ho]
        unfold LX3_putBit_102
        rw [if_pos e2]
        refine ⟨w + 1, by omega, by omega, ⟨s1, by omega, hk1, hk2, by rw [hk3, s3], ?_, ?_⟩, hR.1, fun _ _ => rfl⟩
        · intro q; rw [e] at q; exact absurd q (by decide)
        · intro _; exact ⟨hF, fun _ => hnn⟩
      · have hx : ((FX2_writeStuffedIfDue st lf ao sib u k cr tr bad).1, (FX2_writeStuffedIfDue st lf ao sib u k cr tr bad).2) = (FX0_setBit lf u (nI (w + 1)) 0, (nI (w + 1) + 1, k.2.1 + 1, 0, k.2.2.2)) := by
          unfold FX2_writeStuffedIfDue FX1_stepOverStuffed; dsimp only; rw [if_neg c, hk1]
        rw [hx]
        rcases hd.mp c with q | ⟨_, q, q2⟩
        · rw [e] at q; exact absurd q.1 (by decide)
        rw [if_neg hlf] at q
        have hv0 := hF.mpr q2
        rw [if_neg hv0, if_pos (by rw [s1.1, q_rm8 (by omega), q]; rfl), ho]
        unfold LX3_putBit_102
        rw [if_pos e2]
        obtain ⟨t1, t2, t3, t4⟩ := stuff_step (st := st) (th := th) (km := km) (qm := qm) (bd := bd) (ym := ym) (w := w + 1) hl (by omega) s1
        refine ⟨w + 2, by omega, by omega, ⟨t1, by omega, ?_, hk2, ?_, ?_, ?_⟩, hR.1, fun _ q => absurd q hlf⟩
        · show nI (w + 1) + 1 = _; rw [nI_1]
        · show k.2.1 + 1 = _; rw [hk3, t3, s3]
        · intro q; rw [e] at q; exact absurd q (by decide)
        · intro _; exact ⟨t2 me (by omega) hF, fun _ q => by omega⟩
  · -- by runs
    have hq := st_big hb2
    have h4' := h4 hb2
    rw [if_neg (fun q => hq.2.1 (hao.mp q).2), if_neg hq.2.1, ho]
    have hones : k.2.2.1 = if p = 1 then v.2.2.2.1 + 1 else 0 := by rw [hk4, h4'.1, s4]
    unfold LX3_putBit_102
    rw [if_neg hq.1]
    dsimp only
    rw [← hones]
    by_cases c : k.2.2.1 = st
    · have hdd := hd.mpr (Or.inl ⟨hb2, c⟩)
      have hx : FX2_writeStuffedIfDue st lf ao sib u k cr tr bad = (FX0_setBit lf u (nI (w + 1)) 0, (nI (w + 1) + 1, k.2.1 + 1, 0, k.2.2.2)) := by
        unfold FX2_writeStuffedIfDue FX1_stepOverStuffed; dsimp only; rw [if_neg hdd, hk1]
      rw [hx, if_pos c]
      obtain ⟨t1, t2, t3, t4⟩ := stuff_step (st := st) (th := th) (km := km) (qm := qm) (bd := bd) (ym := ym) (bm := (v.1, v.2.1, v.2.2.1, 0, v.2.2.2.2)) (w := w + 1) hl (by omega) s1
      refine ⟨w + 2, by omega, by omega, ⟨t1, by omega, ?_, hk2, ?_, ?_, ?_⟩, hR.1, fun q => absurd q hq.2.1⟩
      · show nI (w + 1) + 1 = _; rw [nI_1]
      · show k.2.1 + 1 = _; rw [hk3, t3, s3]
      · intro _
        refine ⟨?_, ?_, ?_⟩
        · show (0 : Int32) = _; rw [t4]
        · show 0 ≤ (0 : Int32).toInt; decide
        · show (0 : Int32).toInt < _; rw [i0]; omega
      · intro q; exact absurd q hq.2.1
    · have hnd : FX1_isStuffedDue st sib lf k u = 0 := by
        by_cases d : FX1_isStuffedDue st sib lf k u = 0
        · exact d
        · rcases hd.mp d with q | q
          · exact absurd q.2 c
          · exact absurd q.1 hq.2.1
      have hx : FX2_writeStuffedIfDue st lf ao sib u k cr tr bad = (u, k) := by
        unfold FX2_writeStuffedIfDue; dsimp only; rw [if_pos hnd]
      rw [hx, if_neg c]
      refine ⟨w + 1, by omega, by omega, ⟨s1, by omega, hk1, hk2, by rw [hk3, s3], ?_, ?_⟩, hR.1, fun q => absurd q hq.2.1⟩
      · intro _
        refine ⟨rfl, ?_⟩
        show 0 ≤ k.2.2.1.toInt ∧ k.2.2.1.toInt < st.toInt
        rw [eqI] at c
        rw [hk4] at c ⊢
        by_cases d : p = 1
        · rw [if_pos d] at c ⊢
          have := addI (x := tw.2.2.1) (y := 1) (n := tw.2.2.1.toInt + 1) (by rw [j1]) (by omega) (by omega)
          omega
        · rw [if_neg d, i0]; omega
      · intro q; exact absurd q hq.2.1
/-- a bit, whole -/
theorem w_bit {st lf ao sib th : Int32} {wr : Rw} {tw : Tk} {cr : Rw} {tr : Tk} {bad : Int32} {bm : Bm} {km : Rw} {qm : Tk} {bd : Int32} {ym : Tk} {p : Int32} {w me : Nat} (h0 : 0 ≤ st.toInt) (h16 : st.toInt ≤ 16) (hl : isB lf) (hao : ao = 0 ↔ (lf = 0 ∧ st = 1)) (hs : sib = if lf = 0 then 0 else 7) (hp : isB p) (h : w + 3 ≤ 4800) (hW : Wv st lf wr tw bm w me) :
    ∃ w', w + 1 ≤ w' ∧ w' ≤ w + 2 ∧ Wv st lf (FX2_writeBit st lf ao sib wr tw cr tr bad p).1 (FX2_writeBit st lf ao sib wr tw cr tr bad p).2 (FX3_putBit st lf th bm km qm bd ym p).2 w' me ∧ (Nd st lf bm w → (FX3_putBit st lf th bm km qm bd ym p).1 = nI w) := by
  obtain ⟨w1, a1, a2, a5, a3, a4⟩ := pre_step (ao := ao) (cr := cr) (tr := tr) (bad := bad) (th := th) (km := km) (qm := qm) (bd := bd) (ym := ym) h0 hl hs (by omega) hW
  obtain ⟨w2, b1, b2, b3, b4, b5⟩ := bit_step (ao := ao) (cr := cr) (tr := tr) (bad := bad) (th := th) (km := km) (qm := qm) (bd := bd) (ym := ym) h0 h16 hl hao hs hp (by omega) a3 a4
  have e : FX2_writeBit st lf ao sib (FX2_writeStuffedIfDue st lf ao sib wr tw cr tr bad).1 (FX2_writeStuffedIfDue st lf ao sib wr tw cr tr bad).2 cr tr bad p = FX2_writeBit st lf ao sib wr tw cr tr bad p := by
    have hp2 := pre_nd (ao := ao) (cr := cr) (tr := tr) (bad := bad) h0 hs (by omega) a3 a4
    unfold FX2_writeBit
    dsimp only
    rw [hp2]
  rw [e, ← putBit_pre] at b3
  rw [← putBit_pre] at b4
  refine ⟨w2, by omega, ?_, b3, fun hn => ?_⟩
  · rcases a5 with q | q
    · omega
    · have := b5 q.1 q.2; omega
  have hp3 := pre_nd (ao := ao) (cr := cr) (tr := tr) (bad := bad) h0 hs (by omega) hW hn
  have : w1 = w := by
    have q := a3.2.2.1
    rw [hp3] at q
    have q2 := hW.2.2.1
    rw [q2] at q
    exact ((nI_eq (by omega) (by omega)).mp q).symm
  rw [← this]
  exact b4
