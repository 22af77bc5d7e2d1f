/-! THE SUMS, both sides -/
def mbyte (st lo p0 : Int32) (bm : Bm) (km : Rw) (qm : Tk) (bd : Int32) (ym : Tk) (j : Nat) : Int32 := if p0 = 0 then FX3_byteOf st lo 0 bm km qm bd ym (nI j) else km.1 j
theorem sum_mstep {st lo : Int32} {bm : Bm} {km : Rw} {qm : Tk} {bd : Int32} {ym : Tk} {p0 p1 p2 p3 al sm : Int32} {k i to : Nat} (h3 : p3 = nI to) (hto : to ≤ 600) (hi : i < to) : LX3_sum_85 st lo (k + 1) 0 bm km qm bd ym p0 p1 p2 p3 al sm (nI i) = LX3_sum_85 st lo k 0 bm km qm bd ym p0 p1 p2 p3 al (if p1 = 16 then FX3_sum16 sm (mbyte st lo p0 bm km qm bd ym i) else FX3_sum32 sm (mbyte st lo p0 bm km qm bd ym i)) (nI (i + 1)) := by
  rw [LX3_sum_85, if_neg (by rw [h3, nI_leI (by omega) (by omega)]; omega)]
  dsimp only
  rw [nI_clamp (by omega), nI_1]
  unfold mbyte
  by_cases c : p0 = 0
  · simp only [if_pos c]
    by_cases d : p1 = 16
    · simp only [if_pos d]
    · simp only [if_neg d]
  · simp only [if_neg c]
    by_cases d : p1 = 16
    · simp only [if_pos d]
    · simp only [if_neg d]
theorem sum_16 {st lo : Int32} {rs : Rw} {bm : Bm} {km : Rw} {qm : Tk} {bd : Int32} {ym : Tk} {p0 p2 q2 p3 al : Int32} {to : Nat} (h3 : p3 = nI to) (hto : to ≤ 600) (hb : ∀ j, j < to → ∃ b, b < 256 ∧ rs.1 j = nI b ∧ mbyte st lo p0 bm km qm bd ym j = nI b) :
    ∀ (k i m : Nat), to - i < k → i ≤ to → m < 65536 → LX3_sum_85 st lo k 0 bm km qm bd ym p0 16 p2 p3 al (nI m) (nI i) = (LX0_sumOf16_6 lo k rs q2 p3 (nI m) (nI i), 0) := by
  intro k
  induction k with
  | zero => intro i m h; omega
  | succ k ih =>
    intro i m hk hi hm
    by_cases c : to ≤ i
    · have c' : p3 ≤ nI i := by rw [h3]; exact nI_le c (by omega)
      rw [LX3_sum_85, LX0_sumOf16_6, if_pos c', if_pos c', if_pos rfl]
    · have c' : ¬ p3 ≤ nI i := by rw [h3, nI_leI (by omega) (by omega)]; exact c
      rw [sum_mstep h3 hto (by omega), LX0_sumOf16_6, if_neg c', if_pos rfl]
      dsimp only
      obtain ⟨b, b1, b2, b3⟩ := hb i (by omega)
      rw [b3, q_byteOf (by omega), b2, nI_1]
      obtain ⟨o1, m', o2, o3⟩ := one16 (p0 := q2) (p1 := p3) (p2 := nI m) (i := nI i) hm b1
      rw [o1]
      unfold FX3_sum16
      rw [o3]
      exact ih (i + 1) m' (by omega) (by omega) o2
theorem sum_32 {st lo : Int32} {rs : Rw} {bm : Bm} {km : Rw} {qm : Tk} {bd : Int32} {ym : Tk} {p0 p1 p2 q2 p3 al : Int32} {to : Nat} (hp1 : ¬ p1 = 16) (h3 : p3 = nI to) (hto : to ≤ 600) (hb : ∀ j, j < to → ∃ b, b < 256 ∧ rs.1 j = nI b ∧ mbyte st lo p0 bm km qm bd ym j = nI b) :
    ∀ (k i m : Nat), to - i < k → i ≤ to → m < 2 ^ 32 → LX3_sum_85 st lo k 0 bm km qm bd ym p0 p1 p2 p3 al (nI m) (nI i) = (LX0_sumOf32_5 lo k rs q2 p3 (nI m) (nI i), 0) := by
  intro k
  induction k with
  | zero => intro i m h; omega
  | succ k ih =>
    intro i m hk hi hm
    by_cases c : to ≤ i
    · have c' : p3 ≤ nI i := by rw [h3]; exact nI_le c (by omega)
      rw [LX3_sum_85, LX0_sumOf32_5, if_pos c', if_pos c', if_neg hp1]
    · have c' : ¬ p3 ≤ nI i := by rw [h3, nI_leI (by omega) (by omega)]; exact c
      rw [sum_mstep h3 hto (by omega), LX0_sumOf32_5, if_neg c', if_neg hp1]
      dsimp only
      obtain ⟨b, b1, b2, b3⟩ := hb i (by omega)
      rw [b3, q_byteOf (by omega), b2, nI_1]
      obtain ⟨o1, m', o2, o3⟩ := one32 (p0 := q2) (p1 := p3) (p2 := nI m) (i := nI i) hm b1
      rw [o1]
      unfold FX3_sum32
      rw [o3]
      exact ih (i + 1) m' (by omega) (by omega) o2
/-- one row's answer, for a range that is there or isn't -/
theorem sum_row {st lo : Int32} {rs : Rw} {bm : Bm} {km : Rw} {qm : Tk} {bd : Int32} {ym : Tk} {p0 p1 p2 p3 al : Int32} {N : Nat} (hN : N ≤ 600) (hal : al = nI N) (hrs : rs.2 = nI N) (hb : ∀ j, j < N → ∃ b, b < 256 ∧ rs.1 j = nI b ∧ mbyte st lo p0 bm km qm bd ym j = nI b) (hp : p1 = 16 ∨ p1 = 32) {c m : String ⊕ Int32} {th : Int32} {r2 th' : Int32}
    (ec : c = if p2 < 0 then Sum.inl "java/lang/IndexOutOfBoundsException" else if p3 < p2 then Sum.inl "java/lang/IndexOutOfBoundsException" else if p3 ≤ rs.2 then (if p1 = 16 then Sum.inr (FX0_sumOf16 lo rs p2 p3) else Sum.inr (FX0_sumOf32 lo rs p2 p3)) else Sum.inl "java/lang/IndexOutOfBoundsException")
    (em : (r2, th') = if p2 < 0 then LX3_sum_56 st lo th bm km qm bd ym p0 p1 p2 p3 al 2 else if p3 < p2 then LX3_sum_56 st lo th bm km qm bd ym p0 p1 p2 p3 al 2 else if p3 ≤ al then LX3_sum_56 st lo th bm km qm bd ym p0 p1 p2 p3 al 0 else LX3_sum_56 st lo th bm km qm bd ym p0 p1 p2 p3 al 2) :
    (c = Sum.inl "java/lang/IndexOutOfBoundsException" ∧ th' = 2) ∨ (c = Sum.inr r2 ∧ th' = 0) := by
  have hbad : LX3_sum_56 st lo th bm km qm bd ym p0 p1 p2 p3 al 2 = (0, 2) := by unfold LX3_sum_56; rw [if_neg (by decide)]
  rw [hbad] at em
  by_cases a1 : p2 < 0
  · rw [if_pos a1] at ec em
    exact Or.inl ⟨ec, (Prod.mk.inj em).2⟩
  · rw [if_neg a1] at ec em
    by_cases a2 : p3 < p2
    · rw [if_pos a2] at ec em
      exact Or.inl ⟨ec, (Prod.mk.inj em).2⟩
    · rw [if_neg a2] at ec em
      rw [hrs] at ec
      rw [hal] at em
      by_cases a3 : p3 ≤ nI N
      · rw [if_pos a3] at ec em
        rw [ltI, i0] at a1
        rw [ltI] at a2
        have a3' := a3
        rw [leI, nI_toInt (by omega)] at a3'
        obtain ⟨fr, f0, hfr, f3⟩ := tiN (x := p2) (by omega)
        obtain ⟨to, g0, hto, g3⟩ := tiN (x := p3) (by omega)
        have hfz : to - fr < fz p2 p3 := by unfold fz; omega
        have hb' : ∀ j, j < to → ∃ b, b < 256 ∧ rs.1 j = nI b ∧ mbyte st lo p0 bm km qm bd ym j = nI b := fun j hj => hb j (by omega)
        unfold LX3_sum_56 at em
        rw [if_pos (by decide)] at em
        rcases hp with hp | hp
        · rw [hp, if_pos rfl] at ec em
          have q := sum_16 (st := st) (lo := lo) (rs := rs) (bm := bm) (km := km) (qm := qm) (bd := bd) (ym := ym) (p0 := p0) (p2 := p2) (q2 := p2) (al := nI N) hto (by omega) hb' (fz p2 p3) fr 65535 hfz (by omega) (by decide)
          rw [← hfr] at q
          have q' : LX3_sum_85 st lo (fz p2 p3) 0 bm km qm bd ym p0 16 p2 p3 (nI N) 65535 p2 = (FX0_sumOf16 lo rs p2 p3, 0) := q
          rw [q'] at em
          have em := Prod.mk.inj em
          rw [em.1]
          exact Or.inr ⟨ec, em.2⟩
        · have hn16 : ¬ p1 = 16 := by rw [hp]; decide
          rw [if_neg hn16] at ec em
          have q := sum_32 (st := st) (lo := lo) (rs := rs) (bm := bm) (km := km) (qm := qm) (bd := bd) (ym := ym) (p0 := p0) (p1 := p1) (p2 := p2) (q2 := p2) (al := nI N) hn16 hto (by omega) hb' (fz p2 p3) fr 4294967295 hfz (by omega) (by decide)
          rw [← hfr, show nI 4294967295 = (-1 : Int32) from by decide] at q
          have q' : LX3_sum_85 st lo (fz p2 p3) 0 bm km qm bd ym p0 p1 p2 p3 (nI N) (-1) p2 = (FX0_sumOf32 lo rs p2 p3, 0) := q
          rw [q'] at em
          have em := Prod.mk.inj em
          rw [em.1]
          exact Or.inr ⟨ec, em.2⟩
      · rw [if_neg a3] at ec em
        exact Or.inl ⟨ec, (Prod.mk.inj em).2⟩
theorem sim_sum {st lf ao sib : Int32} {wr : Rw} {tw : Tk} {cr : Rw} {tr : Tk} {bad th : Int32} {bm : Bm} {km : Rw} {qm : Tk} {bd : Int32} {ym : Tk} {ov : Nat → Int64} {p0 p1 p2 p3 : Int32} {r1 : Int32} {r2 : Int32} {ov' : Nat → Int64} {th' : Int32} (hI : Inv st lf ao sib wr tw cr tr bad th bm km qm bd ym) (e1 : (r1, ov') = FL_sum st lf ao sib wr tw cr tr bad ov p0 p1 p2 p3) (e2 : (r2, th') = FX3_sum st lf th bm km qm bd ym p0 p1 p2 p3) : th' = r1 ∧ (r1 = 0 → ov' (0 : Int32).toNatClampNeg = r2.toInt64) ∧ Inv st lf ao sib wr tw cr tr bad th' bm km qm bd ym := by
  obtain ⟨hC, hw, hK, hR, hB⟩ := id hI
  obtain ⟨w, me, h1, hW⟩ := invW_to hw
  obtain ⟨n, t, me2, hKq, hV⟩ := invR_to hK hR
  have h600 := hKq.1
  suffices hgoal : (FX2_sum st lf ao sib wr tw cr tr bad p0 p1 p2 p3 = Sum.inl "java/lang/IllegalArgumentException" ∧ th' = 1) ∨ (FX2_sum st lf ao sib wr tw cr tr bad p0 p1 p2 p3 = Sum.inl "java/lang/IndexOutOfBoundsException" ∧ th' = 2) ∨ (FX2_sum st lf ao sib wr tw cr tr bad p0 p1 p2 p3 = Sum.inr r2 ∧ th' = 0) by
    unfold FL_sum at e1
    rcases hgoal with ⟨g1, g2⟩ | ⟨g1, g2⟩ | ⟨g1, g2⟩
    · rw [g1] at e1
      simp only [xcase, if_true] at e1
      simp only [Prod.mk.injEq] at e1
      obtain ⟨rfl, rfl⟩ := e1
      exact ⟨g2, fun q => absurd q (by decide), hC, hw, hK, hR, hB⟩
    · rw [g1] at e1
      simp only [xcase] at e1
      rw [if_neg (by decide)] at e1
      simp only [Prod.mk.injEq] at e1
      obtain ⟨rfl, rfl⟩ := e1
      exact ⟨g2, fun q => absurd q (by decide), hC, hw, hK, hR, hB⟩
    · rw [g1] at e1
      simp only [xcase, Prod.mk.injEq] at e1
      obtain ⟨rfl, rfl⟩ := e1
      exact ⟨g2, fun _ => pk_uLs, hC, hw, hK, hR, hB⟩
  unfold FX2_sum
  unfold FX3_sum FX3_bytesWritten at e2
  dsimp only at e2 ⊢
  have hwb : p0 = 0 → ∀ j, j < (w + 7) / 8 → ∃ b, b < 256 ∧ wr.1 j = nI b ∧ mbyte st lf p0 bm km qm bd ym j = nI b := by
    intro q j hj
    have hr := bo_rng hC.2.2.1 (bgot bm.1 w j)
    obtain ⟨b, b1, b2, b3⟩ := tiN hr.1
    refine ⟨b, by omega, ?_, ?_⟩
    · rw [hW.1.2.2.1 j (by omega), b2]
    · unfold mbyte; rw [if_pos q, byte_eq hW.1.1 (by omega) (by omega), b2]
  have hkb : ¬ p0 = 0 → ∀ j, j < n → ∃ b, b < 256 ∧ cr.1 j = nI b ∧ mbyte st lf p0 bm km qm bd ym j = nI b := by
    intro q j hj
    have hk := hKq.2.2.2 j hj
    obtain ⟨b, b1, b2, b3⟩ := tiN hk.2.1
    refine ⟨b, by omega, b2, ?_⟩
    unfold mbyte; rw [if_neg q, ← hk.1, b2]
  have hcnt : (bm.2.1 + 7) / 8 = nI ((w + 7) / 8) := by rw [hW.1.1]; exact q_cntM h1
  by_cases c1 : p1 = 16
  · simp only [if_pos c1] at e2 ⊢
    by_cases c0 : p0 = 0
    · simp only [if_pos c0] at e2 ⊢
      rcases sum_row (rs := wr) (p1 := p1) (by omega) hcnt hW.1.2.1 (hwb c0) (Or.inl c1) (by rw [if_pos c1]) e2 (m := Sum.inr 0) with g | g
      · exact Or.inr (Or.inl g)
      · exact Or.inr (Or.inr g)
    · simp only [if_neg c0] at e2 ⊢
      rcases sum_row (rs := cr) (p1 := p1) (by omega) hKq.2.2.1 hKq.2.1 (hkb c0) (Or.inl c1) (by rw [if_pos c1]) e2 (m := Sum.inr 0) with g | g
      · exact Or.inr (Or.inl g)
      · exact Or.inr (Or.inr g)
  · simp only [if_neg c1] at e2 ⊢
    by_cases c2 : p1 = 32
    · simp only [if_pos c2] at e2 ⊢
      by_cases c0 : p0 = 0
      · simp only [if_pos c0] at e2 ⊢
        rcases sum_row (rs := wr) (p1 := p1) (by omega) hcnt hW.1.2.1 (hwb c0) (Or.inr c2) (by rw [if_neg c1]) e2 (m := Sum.inr 0) with g | g
        · exact Or.inr (Or.inl g)
        · exact Or.inr (Or.inr g)
      · simp only [if_neg c0] at e2 ⊢
        rcases sum_row (rs := cr) (p1 := p1) (by omega) hKq.2.2.1 hKq.2.1 (hkb c0) (Or.inr c2) (by rw [if_neg c1]) e2 (m := Sum.inr 0) with g | g
        · exact Or.inr (Or.inl g)
        · exact Or.inr (Or.inr g)
    · simp only [if_neg c2] at e2 ⊢
      have hx : ∀ al : Int32, LX3_sum_56 st lf th bm km qm bd ym p0 p1 p2 p3 al 1 = (0, 1) := fun al => by unfold LX3_sum_56; rw [if_neg (by decide)]
      simp only [hx] at e2
      have : (r2, th') = ((0 : Int32), (1 : Int32)) := by rw [e2]; split <;> rfl
      exact Or.inl ⟨trivial, (Prod.mk.inj this).2⟩
