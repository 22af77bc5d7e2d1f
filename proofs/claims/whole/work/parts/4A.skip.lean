/-! SKIPPING, both sides -/
def mu2 (st : Int32) (cr : Rw) (af : Int32) (t m : Nat) : Prop := (¬ t % 8 = 0 → 8 - t % 8 ≤ m) ∧ (st = 1 → ¬ t % 8 = 0 → cr.1 (t / 8) = 255 → 16 - t % 8 ≤ m) ∧ (st = 1 → t % 8 = 0 → ¬ af = 0 → 8 ≤ m)
theorem al2_iff {st : Int32} {cr : Rw} {ym : Tk} {n t me : Nat} (hn : n ≤ 600) (hM : Mv st cr ym n t me) : alC2 st ym ↔ (¬ t % 8 = 0 ∨ (st = 1 ∧ ¬ ym.2.2.2 = 0)) := by
  unfold alC2
  have := hM.1
  rw [hM.2.2.1, q_rm8 (by omega), q_z (by omega)]
theorem al2_lt {st : Int32} {cr : Rw} {ym : Tk} {n t me : Nat} (hM : Mv st cr ym n t me) (h : ¬ t % 8 = 0 ∨ (st = 1 ∧ ¬ ym.2.2.2 = 0)) : t < 8 * n := by
  have := hM.1
  rcases h with h | h
  · omega
  · have := ((hM.2.2.2.2 h.1).2.1 h.2).1; omega
theorem al2_low {st : Int32} {cr : Rw} {ym : Tk} {n t me : Nat} (hM : Mv st cr ym n t me) (h : ¬ t % 8 = 0 ∨ (st = 1 ∧ ¬ ym.2.2.2 = 0)) (h8 : t % 8 = 0) : ¬ cr.1 (t / 8) = 255 := by
  rcases h with h | h
  · exact absurd h8 h
  · have := ((hM.2.2.2.2 h.1).2.1 h.2).2
    intro q; rw [q] at this; exact absurd this (by decide)
theorem mv_step {st : Int32} {cr km : Rw} {ym y' : Tk} {n t me : Nat} (hK : Kq cr km n) (hM : Mv st cr ym n t me) (h : ¬ t % 8 = 0 ∨ (st = 1 ∧ ¬ ym.2.2.2 = 0)) (e1 : y'.1 = nI (t + 1)) (e2 : y'.2.2.2 = aft km t ym.2.2.2) : Mv st cr y' n (t + 1) me := by
  have hlt := al2_lt hM h
  have hm := hM.2.1
  refine ⟨by omega, by omega, e1, by rw [e2]; exact aft_B hM.2.2.2.1, fun q => ?_⟩
  rw [e2]
  exact pb_step hK hlt hM.2.1 (hM.2.2.2.2 q) (fun a b => absurd b (al2_low hM h a))
theorem mu2_step {st : Int32} {cr km : Rw} {ym : Tk} {n t me m : Nat} (hK : Kq cr km n) (hM : Mv st cr ym n t me) (h : ¬ t % 8 = 0 ∨ (st = 1 ∧ ¬ ym.2.2.2 = 0)) (hmu : mu2 st cr ym.2.2.2 t m) : 1 ≤ m ∧ mu2 st cr (aft km t ym.2.2.2) (t + 1) (m - 1) := by
  have hlt := al2_lt hM h
  have hlow := al2_low hM h
  obtain ⟨u1, u2, u3⟩ := hmu
  have h600 := hK.1
  by_cases c : t % 8 = 0
  · have h1 : st = 1 ∧ ¬ ym.2.2.2 = 0 := by rcases h with h | h; exact absurd c h; exact h
    have := u3 h1.1 c h1.2
    refine ⟨by omega, fun _ => by omega, fun _ _ q => ?_, fun _ q => by omega⟩
    rw [show (t + 1) / 8 = t / 8 by omega] at q
    exact absurd q (hlow c)
  · have := u1 c
    refine ⟨by omega, fun q => by omega, fun a b q => ?_, fun a b q => ?_⟩
    · rw [show (t + 1) / 8 = t / 8 by omega] at q
      have := u2 a c q; omega
    · unfold aft at q
      rw [if_pos b, show (t + 1) / 8 - 1 = t / 8 by omega, ← (hK.2.2.2 (t / 8) (by omega)).1] at q
      have h255 : cr.1 (t / 8) = 255 := by
        by_cases d : cr.1 (t / 8) = 255
        · exact d
        · rw [if_neg d] at q; exact absurd rfl q
      have := u2 a c h255; omega
/-- the two kinds of going on -/
theorem cmx_eq {st lo th : Int32} {bm : Bm} {km : Rw} {qm : Tk} {bd : Int32} {ym : Tk} {t : Nat} (h : ym.1 = nI t) (ht : t < 4800) : cmx st lo th bm km qm bd ym = (nI (t + 1), ym.2.1 + 1, ym.2.2.1, aft km t ym.2.2.2) := by
  unfold cmx; rw [q_goOn h ht]
theorem mnx_eq {st lo th : Int32} {cr : Rw} {bm : Bm} {km : Rw} {qm : Tk} {bd : Int32} {ym : Tk} {n t : Nat} (hK : Kq cr km n) (h : ym.1 = nI t) (ht : t < 8 * n) :
    mnx st lo th bm km qm bd ym = if (¬ st ≤ 1 ∧ (if FX0_bitOf lo cr (nI t) = 1 then ym.2.2.1 + 1 else 0) = st ∧ ¬ (t + 1) % 8 = 0) then (nI (t + 2), ym.2.1 + 1, 0, aft km (t + 1) (aft km t ym.2.2.2)) else (nI (t + 1), ym.2.1, (if FX0_bitOf lo cr (nI t) = 1 then ym.2.2.1 + 1 else 0), aft km t ym.2.2.2) := by
  have h600 := hK.1
  unfold mnx
  have ho := q_goOn (st := st) (lo := lo) (th := th) (bm := bm) (km := km) (qm := qm) (bd := bd) h (by omega)
  rw [ho, h, r_bit_eq hK ht]
  dsimp only
  rw [q_rm8 (by omega)]
  have hz : nI ((t + 1) % 8) = 0 ↔ (t + 1) % 8 = 0 := q_z (by omega)
  by_cases c : (¬ st ≤ 1 ∧ (if FX0_bitOf lo cr (nI t) = 1 then ym.2.2.1 + 1 else 0) = st ∧ ¬ (t + 1) % 8 = 0)
  · have c2 : (¬ st ≤ 1 ∧ (if FX0_bitOf lo cr (nI t) = 1 then ym.2.2.1 + 1 else 0) = st ∧ ¬ nI ((t + 1) % 8) = 0) := ⟨c.1, c.2.1, fun q => c.2.2 (hz.mp q)⟩
    rw [if_pos c, if_pos c2]
    have hlt : t + 1 < 4800 := by omega
    rw [q_goOn (t := t + 1) (ym := (nI (t + 1), ym.2.1 + 1, ym.2.2.1 + 1, aft km t ym.2.2.2)) rfl hlt, q_goOn (t := t + 1) (ym := (nI (t + 1), ym.2.1 + 1, 0, aft km t ym.2.2.2)) rfl hlt]
    split <;> rfl
  · have c2 : ¬ (¬ st ≤ 1 ∧ (if FX0_bitOf lo cr (nI t) = 1 then ym.2.2.1 + 1 else 0) = st ∧ ¬ nI ((t + 1) % 8) = 0) := fun q => c ⟨q.1, q.2.1, fun z => q.2.2 (hz.mpr z)⟩
    rw [if_neg c, if_neg c2]
theorem sk_E {st lf th : Int32} {cr : Rw} {bm : Bm} {km : Rw} {qm : Tk} {bd : Int32} {n me : Nat} (h0 : 0 ≤ st.toInt) (hK : Kq cr km n) : ∀ (k m t : Nat) (ym : Tk) (nn : Int32), Mv st cr ym n t me → mu2 st cr ym.2.2.2 t m → m < k → skE st lf (SX3_skip_20 st lf th bm km qm bd) km k ym nn := by
  intro k
  induction k with
  | zero => intro m t ym nn _ _ h; omega
  | succ k ih =>
    intro m t ym nn hM hmu hm
    have h600 := hK.1
    have ht := hM.1
    obtain ⟨s1, s2, s3⟩ := sk_S (st := st) (lo := lf) (th := th) (bm := bm) (km := km) (qm := qm) (bd := bd) (ym := ym) (nn := nn)
    have hiff := al2_iff h600 hM
    refine ⟨⟨⟨?_, ?_, ?_, ?_⟩, hM.2.2.2.1⟩, fun q => ⟨?_, ?_⟩, fun y' n' e => ?_⟩
    · rw [hM.2.2.1, nI_toInt (by omega)]; omega
    · rw [hM.2.2.1, nI_toInt (by omega)]; omega
    · rw [hK.2.2.1, nI_toInt (by omega)]; omega
    · rw [hK.2.2.1, nI_toInt (by omega)]; omega
    · rw [hM.2.2.1, nI_toInt (by omega)]; omega
    · have := al2_lt hM (hiff.mp q)
      rw [hM.2.2.1, nI_toInt (by omega)]; omega
    · by_cases c : alC2 st ym
      · have hc := hiff.mp c
        have hlt := al2_lt hM hc
        obtain ⟨g1, g2⟩ := mu2_step hK hM hc hmu
        by_cases d : cms st lf ym
        · rw [s2 c d, cmx_eq hM.2.2.1 (by omega)] at e
          have e := Sum.inl.inj e
          rw [Prod.mk.injEq] at e
          rw [e.1]
          exact ih (m - 1) (t + 1) _ _ (mv_step hK hM hc rfl rfl) g2 (by omega)
        · rw [s3 c d, mnx_eq hK hM.2.2.1 hlt] at e
          have e := Sum.inl.inj e
          rw [Prod.mk.injEq] at e
          rw [e.1]
          by_cases f : (¬ st ≤ 1 ∧ (if FX0_bitOf lf cr (nI t) = 1 then ym.2.2.1 + 1 else 0) = st ∧ ¬ (t + 1) % 8 = 0)
          · rw [if_pos f]
            have hM1 := mv_step (y' := (nI (t + 1), ym.2.1, 0, aft km t ym.2.2.2)) hK hM hc rfl rfl
            obtain ⟨g3, g4⟩ := mu2_step hK hM1 (Or.inl f.2.2) g2
            exact ih (m - 1 - 1) (t + 2) _ _ (mv_step hK hM1 (Or.inl f.2.2) rfl rfl) g4 (by omega)
          · rw [if_neg f]
            exact ih (m - 1) (t + 1) _ _ (mv_step hK hM hc rfl rfl) g2 (by omega)
      · rw [s1 c] at e; exact nomatch e
theorem mu2_15 {st : Int32} {cr : Rw} {af : Int32} {t : Nat} : mu2 st cr af t 15 := ⟨fun _ => by omega, fun _ _ _ => by omega, fun _ _ _ => by omega⟩
theorem inv_sk {st lf ao sib : Int32} {wr : Rw} {tw : Tk} {cr : Rw} {tr : Tk} {bad th : Int32} {bm : Bm} {km : Rw} {qm : Tk} {bd : Int32} {ym : Tk} (hI : Inv st lf ao sib wr tw cr tr bad th bm km qm bd ym) : ∀ th : Int32, skE st lf (SX3_skip_20 st lf th bm km qm bd) km 17 (qm.1, qm.2.1, qm.2.2.1, qm.2.2.2) 0 := by
  intro th
  obtain ⟨hC, hw, hK, hR, hB1, hB2⟩ := id hI
  obtain ⟨n, t, me, hKq, hV⟩ := invR_to hK hR
  exact sk_E hC.1 hKq 17 15 t _ 0 hV.1.1 mu2_15 (by omega)
def Qv (st : Int32) (cr : Rw) (tr ym : Tk) (n t me : Nat) : Prop := Mv st cr ym n t me ∧ tr.1 = nI t ∧ tr.2.2.2 = nI me ∧ tr.2.1 = ym.2.1 ∧ (1 < st.toInt → tr.2.2.1 = ym.2.2.1 ∧ 0 ≤ tr.2.2.1.toInt ∧ tr.2.2.1.toInt ≤ st.toInt ∧ (tr.2.2.1 = st → t % 8 = 0))
theorem sk_loop {st lf ao sib th : Int32} {wr : Rw} {tw : Tk} {cr : Rw} {bad : Int32} {bm : Bm} {km : Rw} {qm : Tk} {bd : Int32} {n me : Nat} (h0 : 0 ≤ st.toInt) (h16 : st.toInt ≤ 16) (hs : sib = if lf = 0 then 0 else 7) (hK : Kq cr km n) :
    ∀ (M m k k' i c t : Nat) (tr ym : Tk), m ≤ M → Qv st cr tr ym n t me → mu2 st cr ym.2.2.2 t m → m < k → m < k' → i + m ≤ 16 → c ≤ i → (1 < st.toInt → 0 < i → 0 < c) → ((¬ t % 8 = 0 ∨ (st = 1 ∧ ¬ ym.2.2.2 = 0)) ∨ 0 < i) →
    ∃ c' tr' ym' t', LX2_skip_23 st lf ao sib k wr tw cr tr bad (nI c) (nI i) = (nI c', tr') ∧ LX3_skip_20 st lf k' th bm km qm bd ym (nI c) = (nI c', th, ym', ym') ∧ Rv st lf cr tr' ym' n t' me := by
  intro M
  induction M with
  | zero =>
    intro m k k' i c t tr ym hmM hQ hmu hk hk' him hci hco hal
    obtain ⟨hM, h1, h2, h3, h4⟩ := id hQ
    have h600 := hK.1
    have ht := hM.1
    have hiff := al2_iff h600 hM
    have hc : ¬ (¬ t % 8 = 0 ∨ (st = 1 ∧ ¬ ym.2.2.2 = 0)) := fun q => by have := (mu2_step hK hM q hmu).1; omega
    have hal0 := q_al (st := st) (sib := sib) (lf := lf) (rs := cr) h1 h2 (by omega) hM.2.1
    have hna : ¬ FX1_isAligned st sib lf tr cr = 0 := by
      intro q
      rcases hal0.mp q with q | q
      · exact hc (Or.inl q)
      · exact hc (Or.inr ⟨q.1, (hM.2.2.2.2 q.1).1.mpr q.2⟩)
    have hi : 0 < i := by rcases hal with q | q; exact absurd q hc; exact q
    match k, k', hk, hk' with
    | k + 1, k' + 1, hk, hk' =>
    have e1 : LX2_skip_23 st lf ao sib (k + 1) wr tw cr tr bad (nI c) (nI i) = (nI c, (tr.1, tr.2.1, 0, tr.2.2.2)) := by
      rw [LX2_skip_23]
      dsimp only
      rw [if_neg hna]
      split <;> rfl
    obtain ⟨s1, -, -⟩ := sk_L (st := st) (lo := lf) (th := th) (bm := bm) (km := km) (qm := qm) (bd := bd) (ym := ym) (nn := nI c) (n := k')
    rw [e1, s1 (fun q => hc (hiff.mp q))]
    have h8 : t % 8 = 0 := by
      by_cases d : t % 8 = 0
      · exact d
      · exact absurd (Or.inl d) hc
    by_cases d : nI c ≤ 0
    · rw [if_pos d]
      refine ⟨c, _, ym, t, rfl, rfl, ⟨hM, h1, h2, h3, fun q => ?_⟩, fun _ _ q => by omega⟩
      have := hco q hi
      exact absurd d (nI_nle this (by omega))
    · rw [if_neg d]
      refine ⟨c, _, _, t, rfl, rfl, ⟨hM, h1, h2, h3, fun q => ⟨rfl, ?_, ?_⟩⟩, fun _ _ q => by omega⟩
      · show 0 ≤ (0 : Int32).toInt; decide
      · show (0 : Int32).toInt < _; rw [i0]; omega
  | succ M ih =>
    intro m k k' i c t tr ym hmM hQ hmu hk hk' him hci hco hal
    obtain ⟨hM, h1, h2, h3, h4⟩ := id hQ
    have h600 := hK.1
    have ht := hM.1
    have hiff := al2_iff h600 hM
    by_cases hc : ¬ t % 8 = 0 ∨ (st = 1 ∧ ¬ ym.2.2.2 = 0)
    · obtain ⟨g1, g2⟩ := mu2_step hK hM hc hmu
      have hlt := al2_lt hM hc
      have hal0 := q_al (st := st) (sib := sib) (lf := lf) (rs := cr) h1 h2 (by omega) hM.2.1
      have hna : FX1_isAligned st sib lf tr cr = 0 := by
        refine hal0.mpr ?_
        rcases hc with q | q
        · exact Or.inl q
        · exact Or.inr ⟨q.1, (hM.2.2.2.2 q.1).1.mp q.2⟩
      have hd := q_due (rs := cr) h0 hs h1 h2 (by omega) hM.2.1
      have hcms : cms st lf ym ↔ (st = 1 ∧ ¬ ym.2.2.2 = 0 ∧ t % 8 = if lf = 0 then 0 else 7) := by
        unfold cms
        rw [hM.2.2.1, q_rm8 (by omega)]
        by_cases f : lf = 0
        · rw [if_pos f, if_pos f, q_z (by omega)]
        · rw [if_neg f, if_neg f, q_7 (by omega)]
      have hdc : (¬ FX1_isStuffedDue st sib lf tr cr = 0) ↔ cms st lf ym := by
        rw [hd, hcms]
        constructor
        · intro q; rcases q with q | ⟨q1, q2, q3⟩
          · have h8 := (h4 q.1).2.2.2 q.2
            have hb := st_big q.1
            rcases hc with r | r
            · exact absurd h8 r
            · exact absurd r.1 hb.2.1
          · exact ⟨q1, (hM.2.2.2.2 q1).1.mpr q3, q2⟩
        · intro ⟨q1, q2, q3⟩
          exact Or.inr ⟨q1, q3, (hM.2.2.2.2 q1).1.mp q2⟩
      match k, k', hk, hk' with
      | k + 1, k' + 1, hk, hk' =>
      obtain ⟨-, s2, s3⟩ := sk_L (st := st) (lo := lf) (th := th) (bm := bm) (km := km) (qm := qm) (bd := bd) (ym := ym) (nn := nI c) (n := k')
      have hal2 := hiff.mpr hc
      have hi16 : ¬ (16 : Int32) ≤ nI i := by rw [q_ge (x := 16) 16 (by omega) (by decide) rfl]; omega
      rw [LX2_skip_23, if_neg hi16]
      dsimp only
      rw [if_pos hna]
      by_cases d : cms st lf ym
      · have d1 := (hcms.mp d).1
        have nb : ¬ 1 < st.toInt := by rw [d1]; decide
        rw [if_neg (hdc.mpr d), s2 hal2 d, cmx_eq hM.2.2.1 (by omega), nI_1]
        refine ih (m - 1) k k' (i + 1) c (t + 1) _ _ (by omega) ⟨mv_step hK hM hc rfl rfl, ?_, h2, ?_, fun q => absurd q nb⟩ g2 (by omega) (by omega) (by omega) (by omega) (fun q => absurd q nb) (Or.inr (by omega))
        · show tr.1 + 1 = _; rw [h1, nI_1]
        · show tr.2.1 + 1 = ym.2.1 + 1; rw [h3]
      · have hnd : FX1_isStuffedDue st sib lf tr cr = 0 := by
          by_cases f : FX1_isStuffedDue st sib lf tr cr = 0
          · exact f
          · exact absurd (hdc.mp f) d
        rw [if_pos hnd, s3 hal2 d, mnx_eq hK hM.2.2.1 hlt, nI_1, nI_1, h1]
        have hbB : isB (FX0_bitOf lf cr (nI t)) := r_isB
        generalize FX0_bitOf lf cr (nI t) = b at hbB ⊢
        have hk1 : (FX1_stepOver st sib lf tr cr b).1 = nI (t + 1) := by unfold FX1_stepOver; dsimp only; split <;> (show tr.1 + 1 = _; rw [h1, nI_1])
        have hk2 : (FX1_stepOver st sib lf tr cr b).2.2.2 = nI me := by unfold FX1_stepOver; dsimp only; split <;> exact h2
        have hk3 : (FX1_stepOver st sib lf tr cr b).2.1 = ym.2.1 := by unfold FX1_stepOver; dsimp only; split <;> exact h3
        have hk4 : (FX1_stepOver st sib lf tr cr b).2.2.1 = if b = 1 then tr.2.2.1 + 1 else 0 := by unfold FX1_stepOver; dsimp only; split <;> rfl
        generalize FX1_stepOver st sib lf tr cr b = u at hk1 hk2 hk3 hk4 ⊢
        have hones : 1 < st.toInt → u.2.2.1 = (if b = 1 then ym.2.2.1 + 1 else 0) ∧ 0 ≤ u.2.2.1.toInt ∧ u.2.2.1.toInt ≤ st.toInt := by
          intro q
          have h4' := h4 q
          have hb := st_big q
          have hne : ¬ tr.2.2.1 = st := fun r => by
            rcases hc with z | z
            · exact z (h4'.2.2.2 r)
            · exact hb.2.1 z.1
          rw [eqI] at hne
          refine ⟨by rw [hk4, h4'.1], ?_⟩
          rw [hk4]
          by_cases z : b = 1
          · rw [if_pos z]
            have := addI (x := tr.2.2.1) (y := 1) (n := tr.2.2.1.toInt + 1) (by rw [j1]) (by omega) (by omega)
            omega
          · rw [if_neg z, i0]; omega
        have hM1 := mv_step (y' := (nI (t + 1), ym.2.1, (if b = 1 then ym.2.2.1 + 1 else 0), aft km t ym.2.2.2)) hK hM hc rfl rfl
        by_cases f : (¬ st ≤ 1 ∧ (if b = 1 then ym.2.2.1 + 1 else 0) = st ∧ ¬ (t + 1) % 8 = 0)
        · rw [if_pos f]
          have hbig : 1 < st.toInt := by
            rcases st_cases h0 with z | z | z
            · rw [z] at f; exact absurd (by decide) f.1
            · rw [z] at f; exact absurd (by decide) f.1
            · exact z
          have ho := hones hbig
          have hus : u.2.2.1 = st := by rw [ho.1]; exact f.2.1
          obtain ⟨g3, g4⟩ := mu2_step hK hM1 (Or.inl f.2.2) g2
          -- the class's second turn
          match k, (show 1 ≤ k by omega) with
          | k + 1, _ =>
          have hal1 := q_al (st := st) (sib := sib) (lf := lf) (rs := cr) hk1 hk2 (by omega) (by have := hM.2.1; omega)
          have hd1 := q_due (rs := cr) h0 hs hk1 hk2 (by omega) (by have := hM.2.1; omega)
          have hi17 : ¬ (16 : Int32) ≤ nI (i + 1) := by rw [q_ge (x := 16) 16 (by omega) (by decide) rfl]; omega
          rw [LX2_skip_23, if_neg hi17]
          dsimp only
          rw [if_pos (hal1.mpr (Or.inl f.2.2)), if_neg (hd1.mpr (Or.inl ⟨hbig, hus⟩)), nI_1]
          refine ih (m - 1 - 1) k k' (i + 1 + 1) (c + 1) (t + 2) _ _ (by omega) ⟨mv_step hK hM1 (Or.inl f.2.2) rfl rfl, ?_, hk2, ?_, fun _ => ⟨rfl, ?_, ?_, ?_⟩⟩ g4 (by omega) (by omega) (by omega) (by omega) (fun _ _ => by omega) (Or.inr (by omega))
          · show u.1 + 1 = _; rw [hk1, nI_1]
          · show u.2.1 + 1 = ym.2.1 + 1; rw [hk3]
          · show 0 ≤ (0 : Int32).toInt; decide
          · show (0 : Int32).toInt ≤ _; rw [i0]; omega
          · intro q
            have q : (0 : Int32) = st := q
            rw [← q] at hbig; exact absurd hbig (by decide)
        · rw [if_neg f]
          refine ih (m - 1) k k' (i + 1) (c + 1) (t + 1) _ _ (by omega) ⟨hM1, hk1, hk2, hk3, fun q => ?_⟩ g2 (by omega) (by omega) (by omega) (by omega) (fun _ _ => by omega) (Or.inr (by omega))
          have ho := hones q
          refine ⟨ho.1, ho.2.1, ho.2.2, fun z => ?_⟩
          by_cases w : (t + 1) % 8 = 0
          · exact w
          · exact absurd ⟨(st_big q).1, by rw [← ho.1]; exact z, w⟩ f
    · exact (by
        have hal0 := q_al (st := st) (sib := sib) (lf := lf) (rs := cr) h1 h2 (by omega) hM.2.1
        have hna : ¬ FX1_isAligned st sib lf tr cr = 0 := by
          intro q
          rcases hal0.mp q with q | q
          · exact hc (Or.inl q)
          · exact hc (Or.inr ⟨q.1, (hM.2.2.2.2 q.1).1.mpr q.2⟩)
        have hi : 0 < i := by rcases hal with q | q; exact absurd q hc; exact q
        match k, k', hk, hk' with
        | k + 1, k' + 1, hk, hk' =>
        have e1 : LX2_skip_23 st lf ao sib (k + 1) wr tw cr tr bad (nI c) (nI i) = (nI c, (tr.1, tr.2.1, 0, tr.2.2.2)) := by
          rw [LX2_skip_23]
          dsimp only
          rw [if_neg hna]
          split <;> rfl
        obtain ⟨s1, -, -⟩ := sk_L (st := st) (lo := lf) (th := th) (bm := bm) (km := km) (qm := qm) (bd := bd) (ym := ym) (nn := nI c) (n := k')
        rw [e1, s1 (fun q => hc (hiff.mp q))]
        have h8 : t % 8 = 0 := by
          by_cases d : t % 8 = 0
          · exact d
          · exact absurd (Or.inl d) hc
        by_cases d : nI c ≤ 0
        · rw [if_pos d]
          refine ⟨c, _, ym, t, rfl, rfl, ⟨hM, h1, h2, h3, fun q => ?_⟩, fun _ _ q => by omega⟩
          have := hco q hi
          exact absurd d (nI_nle this (by omega))
        · rw [if_neg d]
          refine ⟨c, _, _, t, rfl, rfl, ⟨hM, h1, h2, h3, fun q => ⟨rfl, ?_, ?_⟩⟩, fun _ _ q => by omega⟩
          · show 0 ≤ (0 : Int32).toInt; decide
          · show (0 : Int32).toInt < _; rw [i0]; omega)
theorem sim_skip {st lf ao sib : Int32} {wr : Rw} {tw : Tk} {cr : Rw} {tr : Tk} {bad th : Int32} {bm : Bm} {km : Rw} {qm : Tk} {bd : Int32} {ym : Tk}   {r1 : Int32} {r2 : Int32} {tr' : Tk} {th' : Int32} {qm' : Tk} {ym' : Tk} (hI : Inv st lf ao sib wr tw cr tr bad th bm km qm bd ym) (e1 : (r1, tr') = FX2_skip st lf ao sib wr tw cr tr bad) (e2 : (r2, th', qm', ym') = FX3_skip st lf th bm km qm bd ym) : r1 = r2 ∧ Inv st lf ao sib wr tw cr tr' bad th' bm km qm' bd ym' := by
  obtain ⟨hC, hw, hK, hR, hB1, hB2⟩ := id hI
  obtain ⟨c1, c2, c3, c4, c5, c6⟩ := id hC
  obtain ⟨n, t, me, hKq, hV⟩ := invR_to hK hR
  obtain ⟨hS, hV2⟩ := id hV
  obtain ⟨hM, h1, h2, h3, h4⟩ := id hS
  have h600 := hKq.1
  have ht := hM.1
  unfold FX2_skip at e1
  unfold FX3_skip FX3_beginTry at e2
  dsimp only at e1 e2
  by_cases d : bad = 0
  · rw [if_pos d] at e1
    rw [← hB1, if_pos d] at e2
    have hiff := al2_iff h600 hM
    have hal0 := q_al (st := st) (sib := sib) (lf := lf) (rs := cr) h1 h2 (by omega) hM.2.1
    have hcc : FX1_isAligned st sib lf tr cr = 0 ↔ (¬ t % 8 = 0 ∨ (st = 1 ∧ ¬ qm.2.2.2 = 0)) := by
      rw [hal0]
      constructor
      · intro q; rcases q with q | q
        · exact Or.inl q
        · exact Or.inr ⟨q.1, (hM.2.2.2.2 q.1).1.mpr q.2⟩
      · intro q; rcases q with q | q
        · exact Or.inl q
        · exact Or.inr ⟨q.1, (hM.2.2.2.2 q.1).1.mp q.2⟩
    by_cases f : FX1_isAligned st sib lf tr cr = 0
    · rw [if_pos f] at e1
      have hQ : Qv st cr tr qm n t me := ⟨hM, h1, h2, h3, fun q => ⟨(h4 q).1, (h4 q).2.1, by have := (h4 q).2.2; omega, fun z => by have := (h4 q).2.2; rw [z] at this; omega⟩⟩
      obtain ⟨c', trN, ymN, tN, q1, q2, q3⟩ := sk_loop (lf := lf) (ao := ao) (th := 0) (wr := wr) (tw := tw) (bad := bad) (bm := bm) (qm := qm) (bd := bad) c1 c2 c6 hKq 15 15 17 17 0 0 t tr qm (by omega) hQ mu2_15 (by omega) (by omega) (by omega) (by omega) (fun _ q => absurd q (by omega)) (Or.inl (hcc.mp f))
      have q1' : LX2_skip_23 st lf ao sib 17 wr tw cr tr bad 0 0 = (nI c', trN) := q1
      have q2' : LX3_skip_20 st lf 17 0 bm km qm bad qm 0 = (nI c', 0, ymN, ymN) := q2
      rw [q1'] at e1
      rw [q2'] at e2
      simp only [Prod.mk.injEq] at e1 e2
      obtain ⟨rfl, rfl⟩ := e1
      obtain ⟨rfl, rfl, rfl, rfl⟩ := e2
      exact ⟨rfl, hC, hw, hK, invR_of hKq q3, hB1, hB2⟩
    · rw [if_neg f] at e1
      obtain ⟨s1, -, -⟩ := sk_L (st := st) (lo := lf) (th := 0) (bm := bm) (km := km) (qm := qm) (bd := bad) (ym := qm) (nn := 0) (n := 16)
      rw [s1 (fun q => f (hcc.mpr (hiff.mp q))), if_pos (by decide)] at e2
      simp only [Prod.mk.injEq] at e1 e2
      obtain ⟨rfl, rfl⟩ := e1
      obtain ⟨rfl, rfl, rfl, rfl⟩ := e2
      exact ⟨rfl, hC, hw, hK, hR, hB1, hB2⟩
  · rw [if_neg d] at e1
    rw [← hB1, if_neg d] at e2
    simp only [Prod.mk.injEq] at e1 e2
    obtain ⟨rfl, rfl⟩ := e1
    obtain ⟨rfl, rfl, rfl, rfl⟩ := e2
    exact ⟨rfl, hC, hw, hK, hR, hB1, hB2⟩
