/-! FIELDS WRITTEN, ALIGNING -/
theorem invW_of {st lf : Int32} {wr : Rw} {tw : Tk} {bm : Bm} {w me : Nat} (hw : w ≤ 4800) (h : Wv st lf wr tw bm w me) : InvW st lf wr tw bm := by
  obtain ⟨⟨a1, a2, a3, a4⟩, hm, h1, h2, h3, h4, h5⟩ := h
  exact ⟨w, me, hw, hm, h1, a1, h2, h3, a2, a3, a4, h4, h5⟩
theorem invW_to {st lf : Int32} {wr : Rw} {tw : Tk} {bm : Bm} (h : InvW st lf wr tw bm) : ∃ w me, w ≤ 4800 ∧ Wv st lf wr tw bm w me := by
  obtain ⟨w, me, hw, hm, h1, a1, h2, h3, a2, a3, a4, h4, h5⟩ := h
  exact ⟨w, me, hw, ⟨a1, a2, a3, a4⟩, hm, h1, h2, h3, h4, h5⟩
theorem and1 (x : Int32) : isB (x &&& 1) := by
  obtain ⟨j, hj, e⟩ := pk_andE x (m := 1) 1 (by decide)
  rw [e]
  have : j = 0 ∨ j = 1 := by omega
  rcases this with rfl | rfl
  · exact Or.inl rfl
  · exact Or.inr rfl
def vbit (v s : Int32) : Int32 := ((v.toUInt32 >>> (s.toUInt32 &&& Int32.toUInt32 31)).toInt32) &&& 1
def fsh (lf b i : Int32) : Int32 := if lf = 0 then (b - 1) - i else i
theorem put_mstep {st lo th : Int32} {bm : Bm} {km : Rw} {qm : Tk} {bd : Int32} {ym : Tk} {p0 p1 pl : Int32} {n b i : Nat} (hb : p0 = nI b) (hb2 : b ≤ 32) (hi : i < b) :
    LX3_put_47 st lo (n + 1) th bm km qm bd ym p0 p1 pl (nI i) = LX3_put_47 st lo n th (FX3_putBit st lo th bm km qm bd ym (vbit p1 (fsh lo p0 (nI i)))).2 km qm bd ym p0 p1 (if i = 0 then (FX3_putBit st lo th bm km qm bd ym (vbit p1 (fsh lo p0 (nI i)))).1 else pl) (nI (i + 1)) := by
  rw [LX3_put_47]
  rw [if_neg (by rw [hb, nI_leI (by omega) (by omega)]; omega)]
  dsimp only
  have hx : ∀ x : Int32, isB x → ¬ x = 1 → x = 0 := fun x h q => by rcases h with h | h; exact h; exact absurd h q
  have hz : nI i = 0 ↔ i = 0 := q_z (by omega)
  unfold fsh
  by_cases c : lo = 0
  · simp only [if_pos c]
    by_cases d : ((p1.toUInt32 >>> (((p0 - 1) - nI i).toUInt32 &&& Int32.toUInt32 31)).toInt32) &&& 1 = 1
    · rw [if_pos d]
      unfold vbit; rw [d]
      by_cases e : i = 0
      · rw [if_pos (hz.mpr e), if_pos e, nI_1]
      · rw [if_neg (fun q => e (hz.mp q)), if_neg e, nI_1]
    · rw [if_neg d]
      unfold vbit; rw [hx _ (and1 _) d]
      by_cases e : i = 0
      · rw [if_pos (hz.mpr e), if_pos e, nI_1]
      · rw [if_neg (fun q => e (hz.mp q)), if_neg e, nI_1]
  · simp only [if_neg c]
    by_cases d : ((p1.toUInt32 >>> ((nI i).toUInt32 &&& Int32.toUInt32 31)).toInt32) &&& 1 = 1
    · rw [if_pos d]
      unfold vbit; rw [d]
      by_cases e : i = 0
      · rw [if_pos (hz.mpr e), if_pos e, nI_1]
      · rw [if_neg (fun q => e (hz.mp q)), if_neg e, nI_1]
    · rw [if_neg d]
      unfold vbit; rw [hx _ (and1 _) d]
      by_cases e : i = 0
      · rw [if_pos (hz.mpr e), if_pos e, nI_1]
      · rw [if_neg (fun q => e (hz.mp q)), if_neg e, nI_1]
theorem put_loop {st lf ao sib th : Int32} {cr : Rw} {tr : Tk} {bad : Int32} {km : Rw} {qm : Tk} {bd : Int32} {ym : Tk} {p0 p1 : Int32} {b me : Nat} (h0 : 0 ≤ st.toInt) (h16 : st.toInt ≤ 16) (hl : isB lf) (hao : ao = 0 ↔ (lf = 0 ∧ st = 1)) (hs : sib = if lf = 0 then 0 else 7) (hb : p0 = nI b) (hb1 : 1 ≤ b) (hb2 : b ≤ 32) :
    ∀ (n i w : Nat) (wr : Rw) (tw : Tk) (bm : Bm) (pl pm : Int32), b - i < n → i ≤ b → w + 2 * (b - i) + 8 ≤ 4800 → Wv st lf wr tw bm w me → (i = 0 → pl = nI w ∧ Nd st lf bm w) → (0 < i → pl = pm) →
    ∃ wr' tw' bm' w', LX2_put_24 st lf ao sib n wr tw cr tr bad p0 p1 pl (nI i) = Sum.inr (pl, wr', tw') ∧ LX3_put_47 st lf n th bm km qm bd ym p0 p1 pm (nI i) = (pl, th, bm') ∧ w' ≤ 4800 ∧ Wv st lf wr' tw' bm' w' me := by
  intro n
  induction n with
  | zero => intro i w wr tw bm pl pm h; omega
  | succ n ih =>
    intro i w wr tw bm pl pm hn hi hw hW hz hp
    by_cases c : b ≤ i
    · refine ⟨wr, tw, bm, w, ?_, ?_, by omega, hW⟩
      · rw [LX2_put_24, if_pos (by rw [hb]; exact nI_le c (by omega))]
      · rw [LX3_put_47, if_pos (by rw [hb]; exact nI_le c (by omega)), hp (by omega)]
    · rw [put_mstep hb hb2 (by omega)]
      rw [LX2_put_24, if_neg (by rw [hb, nI_leI (by omega) (by omega)]; exact c)]
      dsimp only
      have hbit : ((p1.toUInt32 >>> ((FX2_shiftOf st lf ao sib wr tw cr tr bad (nI i) p0).toUInt32 &&& Int32.toUInt32 31)).toInt32) &&& 1 = vbit p1 (fsh lf p0 (nI i)) := rfl
      rw [hbit, nI_1]
      obtain ⟨w', a1, a2, a3, a4⟩ := w_bit (ao := ao) (cr := cr) (tr := tr) (bad := bad) (th := th) (km := km) (qm := qm) (bd := bd) (ym := ym) (p := vbit p1 (fsh lf p0 (nI i))) h0 h16 hl hao hs (and1 _) (by omega) hW
      refine ih (i + 1) w' _ _ _ pl _ (by omega) (by omega) (by omega) a3 (fun q => absurd q (by omega)) (fun _ => ?_)
      by_cases d : i = 0
      · rw [if_pos d, (a4 (hz d).2), (hz d).1]
      · rw [if_neg d]; exact hp (by omega)
/-- the reference alone: what a bit 0 does -/
theorem add0 {st lo th : Int32} {bm : Bm} {km : Rw} {qm : Tk} {bd : Int32} {ym : Tk} {w : Nat} (hl : isB lo) (hw : bm.2.1 = nI w) (h : w < 5200) : (FX3_add st lo th bm km qm bd ym 0).2.1 = nI (w + 1) ∧ ((w + 1) % 8 = 0 → (FX3_add st lo th bm km qm bd ym 0).2.2.2.2 = 0) := by
  rw [q_add (Or.inl rfl) hw h]
  refine ⟨rfl, fun c => ?_⟩
  dsimp only
  rw [if_pos c, if_neg]
  rw [bo_full hl]
  intro q
  have := q 7 (by omega)
  rw [bgot_upd, if_pos (by omega)] at this
  exact absurd this (by decide)
theorem stuff0 {st lo th : Int32} {bm : Bm} {km : Rw} {qm : Tk} {bd : Int32} {ym : Tk} {w : Nat} (hl : isB lo) (hw : bm.2.1 = nI w) (h : w < 5200) : (FX3_stuff st lo th bm km qm bd ym).2.1 = nI (w + 1) ∧ ((w + 1) % 8 = 0 → (FX3_stuff st lo th bm km qm bd ym).2.2.2.2 = 0) := by
  unfold FX3_stuff
  exact add0 (bm := (bm.1, bm.2.1, bm.2.2.1 + 1, bm.2.2.2.1, bm.2.2.2.2)) hl hw h
theorem p84 {st lo th : Int32} {v : Bm} {km : Rw} {qm : Tk} {bd : Int32} {ym : Tk} {pl : Int32} (h0 : 0 ≤ st.toInt) : (LX3_putBit_84 st lo th v km qm bd ym 0 pl).2 = (v.1, v.2.1, v.2.2.1, 0, v.2.2.2.2) := by
  unfold LX3_putBit_84 LX3_putBit_102
  rw [if_pos rfl]
  dsimp only
  by_cases c : st ≤ 1
  · rw [if_pos c]
  · rw [if_neg c, if_neg]
    intro q; rw [← q] at c; exact c (by decide)
theorem putBit0 {st lo th : Int32} {bm : Bm} {km : Rw} {qm : Tk} {bd : Int32} {ym : Tk} {w : Nat} (hl : isB lo) (h0 : 0 ≤ st.toInt) (hw : bm.2.1 = nI w) (h : w + 4 ≤ 5200) :
    ∃ w', (FX3_putBit st lo th bm km qm bd ym 0).2.2.1 = nI w' ∧ w < w' ∧ w' ≤ 8 * (w / 8 + 1) ∧ (w' % 8 = 0 → (FX3_putBit st lo th bm km qm bd ym 0).2.2.2.2.2 = 0) := by
  rw [putBit_pre]
  have hpre : ∃ w1, (mpre st lo th bm km qm bd ym).2.1 = nI w1 ∧ (w1 = w ∨ (w % 8 = 0 ∧ w1 = w + 1 ∧ lo = 0)) := by
    unfold mpre
    split
    · rename_i c
      refine ⟨w + 1, (stuff0 hl hw (by omega)).1, Or.inr ⟨?_, rfl, c.2.1⟩⟩
      have := c.2.2.2
      rw [hw, q_rm8 (by omega), q_z (by omega)] at this; exact this
    · exact ⟨w, hw, Or.inl rfl⟩
  obtain ⟨w1, e1, e2⟩ := hpre
  generalize mpre st lo th bm km qm bd ym = b1 at e1 ⊢
  unfold LX3_putBit_36
  dsimp only
  have ha := add0 (st := st) (th := th) (km := km) (qm := qm) (bd := bd) (ym := ym) hl e1 (by omega)
  generalize FX3_add st lo th b1 km qm bd ym 0 = u at ha ⊢
  have hone : ∃ w', (LX3_putBit_84 st lo th u km qm bd ym 0 b1.2.1).2.2.1 = nI w' ∧ w < w' ∧ w' ≤ 8 * (w / 8 + 1) ∧ (w' % 8 = 0 → (LX3_putBit_84 st lo th u km qm bd ym 0 b1.2.1).2.2.2.2.2 = 0) := by
    rw [p84 h0]
    exact ⟨w1 + 1, ha.1, by omega, by omega, ha.2⟩
  split
  · split
    · exact hone
    · split
      · exact hone
      · split
        · rename_i c1 c2 c3 c4
          rw [p84 h0]
          rw [ha.1, q_rm8 (by omega), q_7 (by omega)] at c4
          have hb := stuff0 (st := st) (th := th) (km := km) (qm := qm) (bd := bd) (ym := ym) hl ha.1 (by omega)
          exact ⟨w1 + 2, hb.1, by omega, by omega, hb.2⟩
        · exact hone
  · exact hone
def mu (st : Int32) (bm : Bm) (w m : Nat) : Prop := (¬ w % 8 = 0 → 8 - w % 8 ≤ m) ∧ (w % 8 = 0 → st = 1 → ¬ bm.2.2.2.2 = 0 → 8 ≤ m)
theorem al_E {st lo : Int32} {km : Rw} {qm : Tk} {bd : Int32} {ym : Tk} (hl : isB lo) (h0 : 0 ≤ st.toInt) : ∀ (n m : Nat) (th : Int32) (bm : Bm) (w : Nat), bm.2.1 = nI w → mu st bm w m → m < n → w ≤ 4900 → (alC st bm → 8 * (w / 8 + 1) ≤ 4900) → alE st lo n th bm km qm bd ym := by
  intro n
  induction n with
  | zero => intro m th bm w _ _ h; omega
  | succ n ih =>
    intro m th bm w hw hmu hm hw2 hw3
    refine ⟨⟨by rw [hw, nI_toInt (by omega)]; omega, by rw [hw, nI_toInt (by omega)]; omega⟩, fun c => ?_⟩
    obtain ⟨w', a1, a2, a3, a4⟩ := putBit0 (th := th) (km := km) (qm := qm) (bd := bd) (ym := ym) hl h0 hw (by omega)
    have h3 := hw3 c
    have hc : ¬ w % 8 = 0 ∨ (st = 1 ∧ ¬ bm.2.2.2.2 = 0) := by
      rcases c with c | c
      · rw [hw, q_rm8 (by omega), q_z (by omega)] at c; exact Or.inl c
      · exact Or.inr c
    have hm8 : 1 ≤ m ∧ (¬ w % 8 = 0 → 8 - w % 8 ≤ m) ∧ (w % 8 = 0 → 8 ≤ m) := by
      refine ⟨?_, hmu.1, ?_⟩
      · rcases hc with c | c
        · have := hmu.1 c; omega
        · by_cases d : w % 8 = 0
          · have := hmu.2 d c.1 c.2; omega
          · have := hmu.1 d; omega
      · intro d
        rcases hc with c | c
        · exact absurd d c
        · exact hmu.2 d c.1 c.2
    refine ih (m - 1) th _ w' a1 ⟨fun d => ?_, fun d _ e => absurd (a4 d) e⟩ (by omega) (by omega) (fun c' => ?_)
    · by_cases e : w % 8 = 0
      · have := hm8.2.2 e; omega
      · have := hm8.2.1 e; omega
    · rcases c' with c' | c'
      · rw [a1, q_rm8 (by omega), q_z (by omega)] at c'; omega
      · by_cases d : w' % 8 = 0
        · exact absurd (a4 d) c'.2
        · omega
theorem mu8 {st : Int32} {bm : Bm} {w : Nat} : mu st bm w 8 := ⟨fun _ => by omega, fun _ _ _ => by omega⟩
theorem inv_al {st lf ao sib : Int32} {wr : Rw} {tw : Tk} {cr : Rw} {tr : Tk} {bad th : Int32} {bm : Bm} {km : Rw} {qm : Tk} {bd : Int32} {ym : Tk} (hI : Inv st lf ao sib wr tw cr tr bad th bm km qm bd ym) : ∀ th : Int32, alE st lf 17 th bm km qm bd ym := by
  intro th
  obtain ⟨⟨c1, c2, c3, -⟩, hw, -⟩ := hI
  obtain ⟨w, me, h1, hW⟩ := invW_to hw
  exact al_E c3 c1 17 8 th bm w hW.1.1 mu8 (by omega) (by omega) (fun _ => by omega)
theorem al_mstep {st lo th : Int32} {bm : Bm} {km : Rw} {qm : Tk} {bd : Int32} {ym : Tk} {nn : Int32} {n w : Nat} (hw : bm.2.1 = nI w) (h : w ≤ 5000) :
    LX3_alignAll_2 st lo (n + 1) th bm km qm bd ym nn = if (¬ w % 8 = 0 ∨ (st = 1 ∧ ¬ bm.2.2.2.2 = 0)) then LX3_alignAll_2 st lo n th (FX3_putBit st lo th bm km qm bd ym 0).2 km qm bd ym (nn + 1) else (nn, bm) := by
  rw [LX3_alignAll_2]
  dsimp only
  have hz : bm.2.1 - bm.2.1 / 8 * 8 = 0 ↔ w % 8 = 0 := by rw [hw, q_rm8 (by omega), q_z (by omega)]
  by_cases c : w % 8 = 0
  · rw [if_pos (hz.mpr c)]
    by_cases d : st = 1
    · rw [if_pos d]
      by_cases e : bm.2.2.2.2 = 0
      · rw [if_pos e, if_neg]
        intro q; rcases q with q | q
        · exact q c
        · exact q.2 e
      · rw [if_neg e, if_pos (Or.inr ⟨d, e⟩)]
    · rw [if_neg d, if_neg]
      intro q; rcases q with q | q
      · exact q c
      · exact d q.1
  · rw [if_neg (fun q => c (hz.mp q)), if_pos (Or.inl c)]
theorem al_loop {st lf ao sib th : Int32} {cr : Rw} {tr : Tk} {bad : Int32} {km : Rw} {qm : Tk} {bd : Int32} {ym : Tk} {me : Nat} (h0 : 0 ≤ st.toInt) (h16 : st.toInt ≤ 16) (hl : isB lf) (hao : ao = 0 ↔ (lf = 0 ∧ st = 1)) (hs : sib = if lf = 0 then 0 else 7) :
    ∀ (n m i w : Nat) (wr : Rw) (tw : Tk) (bm : Bm) (z : Int32), Wv st lf wr tw bm w me → mu st bm w m → m < n → i + m ≤ 15 → w ≤ 4800 → ((¬ w % 8 = 0 ∨ (st = 1 ∧ ¬ bm.2.2.2.2 = 0)) → 8 * (w / 8 + 1) + 3 ≤ 4800) →
    ∃ wr' tw' bm' w' z', LX2_writeTillAligned_4 st lf ao sib n wr tw cr tr bad z (nI i) = (z', wr', tw') ∧ LX3_alignAll_2 st lf n th bm km qm bd ym z = (z', bm') ∧ w' ≤ 4800 ∧ w' ≤ 8 * (w / 8 + 1) ∧ Wv st lf wr' tw' bm' w' me ∧ w' % 8 = 0 ∧ (st = 1 → bm'.2.2.2.2 = 0) := by
  intro n
  induction n with
  | zero => intro m i w wr tw bm z _ _ h; omega
  | succ n ih =>
    intro m i w wr tw bm z hW hmu hm hi hw hw3
    have ha := q_al (st := st) (sib := sib) (lf := lf) (rs := wr) hW.2.2.1 hW.2.2.2.1 (by omega) hW.2.1
    have hcc : (¬ w % 8 = 0 ∨ (st = 1 ∧ full wr.1 w me)) ↔ (¬ w % 8 = 0 ∨ (st = 1 ∧ ¬ bm.2.2.2.2 = 0)) := by
      constructor
      · intro q; rcases q with q | q
        · exact Or.inl q
        · exact Or.inr ⟨q.1, (hW.2.2.2.2.2.2 q.1).1.mpr q.2⟩
      · intro q; rcases q with q | q
        · exact Or.inl q
        · exact Or.inr ⟨q.1, (hW.2.2.2.2.2.2 q.1).1.mp q.2⟩
    rw [hcc] at ha
    rw [al_mstep hW.1.1 (by omega), LX2_writeTillAligned_4]
    rw [if_neg (by rw [q_ge (x := 16) 16 (by omega) (by decide) rfl]; omega)]
    dsimp only
    by_cases hc : ¬ w % 8 = 0 ∨ (st = 1 ∧ ¬ bm.2.2.2.2 = 0)
    · rw [if_pos (ha.mpr hc), if_pos hc, nI_1]
      have h3 := hw3 hc
      obtain ⟨w1, b1, b2, b3, -⟩ := w_bit (ao := ao) (cr := cr) (tr := tr) (bad := bad) (th := th) (km := km) (qm := qm) (bd := bd) (ym := ym) (p := 0) h0 h16 hl hao hs (Or.inl rfl) (by omega) hW
      obtain ⟨w', a1, a2, a3, a4⟩ := putBit0 (th := th) (km := km) (qm := qm) (bd := bd) (ym := ym) hl h0 hW.1.1 (by omega)
      have e : w1 = w' := by
        have q := b3.1.1
        rw [a1] at q
        exact ((nI_eq (by omega) (by omega)).mp q).symm
      subst e
      have hm8 : 1 ≤ m ∧ (¬ w % 8 = 0 → 8 - w % 8 ≤ m) ∧ (w % 8 = 0 → 8 ≤ m) := by
        refine ⟨?_, hmu.1, ?_⟩
        · rcases hc with c | c
          · have := hmu.1 c; omega
          · by_cases d : w % 8 = 0
            · have := hmu.2 d c.1 c.2; omega
            · have := hmu.1 d; omega
        · intro d
          rcases hc with c | c
          · exact absurd d c
          · exact hmu.2 d c.1 c.2
      by_cases hb : w1 % 8 = 0
      · obtain ⟨wr', tw', bm', w', z', q1, q2, q3, q4, q5, q6, q7⟩ := ih 0 (i + 1) w1 _ _ _ (z + 1) b3 ⟨fun d => absurd hb d, fun _ _ d => absurd (a4 hb) d⟩ (by omega) (by omega) (by omega) (fun q => by rcases q with q | q; exact absurd hb q; exact absurd (a4 hb) q.2)
        refine ⟨wr', tw', bm', w', z', q1, q2, q3, ?_, q5, q6, q7⟩
        -- it stays where it is
        have hk : LX3_alignAll_2 st lf n th (FX3_putBit st lf th bm km qm bd ym 0).2 km qm bd ym (z + 1) = (z + 1, (FX3_putBit st lf th bm km qm bd ym 0).2) := by
          match n, hm with
          | n + 1, _ =>
            rw [al_mstep a1 (by omega), if_neg]
            intro q; rcases q with q | q
            · exact q hb
            · exact q.2 (a4 hb)
          | 0, hm => omega
        rw [hk] at q2
        have q9 := q5.1.1
        rw [← (Prod.mk.inj q2).2, a1] at q9
        have := (nI_eq (by omega) (by omega)).mp q9
        omega
      · obtain ⟨wr', tw', bm', w', z', q1, q2, q3, q4, q5, q6, q7⟩ := ih (m - 1) (i + 1) w1 _ _ _ (z + 1) b3 ⟨fun d => by
            by_cases e : w % 8 = 0
            · have := hm8.2.2 e; omega
            · have := hm8.2.1 e; omega, fun d => absurd d hb⟩ (by omega) (by omega) (by omega) (fun _ => by omega)
        exact ⟨wr', tw', bm', w', z', q1, q2, q3, by omega, q5, q6, q7⟩
    · rw [if_neg (fun q => hc (ha.mp q)), if_neg hc]
      refine ⟨wr, tw, bm, w, z, rfl, rfl, by omega, by omega, hW, ?_, ?_⟩
      · by_cases d : w % 8 = 0
        · exact d
        · exact absurd (Or.inl d) hc
      · intro d
        by_cases e : bm.2.2.2.2 = 0
        · exact e
        · exact absurd (Or.inr ⟨d, e⟩) hc
