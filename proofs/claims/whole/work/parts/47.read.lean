/-! READING, bit by bit -/
theorem z10 : ¬ (1 : Int32) = 0 := by decide
theorem z30 : ¬ (-3 : Int32) = 0 := by decide
theorem z110 : ¬ (-1 : Int32) = 0 := by decide
theorem z3l : ¬ 0 ≤ (-3 : Int32).toInt := by decide
theorem z1l : ¬ 0 ≤ (-1 : Int32).toInt := by decide
def Kq (cr km : Rw) (n : Nat) : Prop := n ≤ 600 ∧ cr.2 = nI n ∧ km.2 = nI n ∧ ∀ j, j < n → cr.1 j = km.1 j ∧ 0 ≤ (cr.1 j).toInt ∧ (cr.1 j).toInt ≤ 255
def Pb (cr : Rw) (af : Int32) (n t me : Nat) : Prop := (¬ af = 0 ↔ full cr.1 t me) ∧ (¬ af = 0 → t / 8 < n ∧ (cr.1 (t / 8)).toInt < 128) ∧ (¬ t % 8 = 0 → cr.1 (t / 8) = 255 → t / 8 + 1 < n ∧ (cr.1 (t / 8 + 1)).toInt < 128)
def Mv (st : Int32) (cr : Rw) (ym : Tk) (n t me : Nat) : Prop := t ≤ 8 * n ∧ 8 * me ≤ t ∧ ym.1 = nI t ∧ isB ym.2.2.2 ∧ (st = 1 → Pb cr ym.2.2.2 n t me)
def Sv (st : Int32) (cr : Rw) (tr ym : Tk) (n t me : Nat) : Prop := Mv st cr ym n t me ∧ tr.1 = nI t ∧ tr.2.2.2 = nI me ∧ tr.2.1 = ym.2.1 ∧ (1 < st.toInt → tr.2.2.1 = ym.2.2.1 ∧ 0 ≤ tr.2.2.1.toInt ∧ tr.2.2.1.toInt < st.toInt)
def Rv (st lf : Int32) (cr : Rw) (tr ym : Tk) (n t me : Nat) : Prop := Sv st cr tr ym n t me ∧ (st = 1 → ¬ lf = 0 → ¬ (t % 8 = 7 ∧ ¬ ym.2.2.2 = 0))
theorem invR_to {st lf : Int32} {cr km : Rw} {tr qm : Tk} (hK : InvK cr km) (hR : InvR st lf cr tr qm) : ∃ n t me, Kq cr km n ∧ Rv st lf cr tr qm n t me := by
  obtain ⟨n, a1, a2, a3, a4⟩ := hK
  obtain ⟨t, me, n', b1, b2, b3, b4, b5, b6, b7, b8, b9, b10, b11⟩ := hR
  have : n' = n := by rw [a2] at b1; exact ((nI_eq (by omega) (by omega)).mp b1).symm
  subst this
  exact ⟨n', t, me, ⟨a1, a2, a3, a4⟩, ⟨⟨b3, b4, b6, b9, fun q => ⟨(b11 q).1, (b11 q).2.1, (b11 q).2.2.2⟩⟩, b5, b7, b8, b10⟩, fun q => (b11 q).2.2.1⟩
theorem invR_of {st lf : Int32} {cr km : Rw} {tr qm : Tk} {n t me : Nat} (hK : Kq cr km n) (hR : Rv st lf cr tr qm n t me) : InvR st lf cr tr qm := by
  obtain ⟨⟨⟨b3, b4, b6, b9, b11⟩, b5, b7, b8, b10⟩, b12⟩ := hR
  exact ⟨t, me, n, hK.2.1, hK.1, b3, b4, b5, b6, b7, b8, b9, b10, fun q => ⟨(b11 q).1, (b11 q).2.1, b12 q, (b11 q).2.2⟩⟩
theorem invK_of {cr km : Rw} {n : Nat} (hK : Kq cr km n) : InvK cr km := ⟨n, hK.1, hK.2.1, hK.2.2.1, hK.2.2.2⟩
theorem r_bitAt {st lo th : Int32} {bm : Bm} {km : Rw} {qm : Tk} {bd : Int32} {ym : Tk} {t : Nat} (ht : t < 4800) : FX3_bitAt st lo th bm km qm bd ym (nI t) = (km.1 (t / 8) >>> (shk lo (t % 8) &&& 31)) &&& 1 := by
  unfold FX3_bitAt shk
  dsimp only
  rw [q_rm8 (by omega), q_dv8 (by omega), nI_clamp (by omega)]
  by_cases c : lo = 0
  · rw [if_pos c, if_pos c]
  · rw [if_neg c, if_neg c]
theorem r_bit_eq {st lf th : Int32} {cr : Rw} {bm : Bm} {km : Rw} {qm : Tk} {bd : Int32} {ym : Tk} {n t : Nat} (hK : Kq cr km n) (ht : t < 8 * n) : FX3_bitAt st lf th bm km qm bd ym (nI t) = FX0_bitOf lf cr (nI t) := by
  have := hK.1
  rw [r_bitAt (by omega), q_bitOf (by omega), (hK.2.2.2 _ (by omega)).1]
theorem r_isB {lf : Int32} {cr : Rw} {p : Int32} : isB (FX0_bitOf lf cr p) := by
  unfold FX0_bitOf; dsimp only; exact and1 _
def aft (km : Rw) (t : Nat) (af : Int32) : Int32 := if (t + 1) % 8 = 0 then (if km.1 ((t + 1) / 8 - 1) = 255 then 1 else 0) else af
theorem aft_B {km : Rw} {t : Nat} {af : Int32} (h : isB af) : isB (aft km t af) := by
  unfold aft; split
  · split
    · exact Or.inr rfl
    · exact Or.inl rfl
  · exact h
theorem q_goOn {st lo th : Int32} {bm : Bm} {km : Rw} {qm : Tk} {bd : Int32} {ym : Tk} {t : Nat} (h : ym.1 = nI t) (ht : t < 4800) : FX3_goOn st lo th bm km qm bd ym = (nI (t + 1), ym.2.1, ym.2.2.1, aft km t ym.2.2.2) := by
  unfold FX3_goOn aft
  dsimp only
  rw [h, nI_1, q_rm8 (by omega), q_dv8 (by omega)]
  by_cases c : (t + 1) % 8 = 0
  · rw [if_pos ((q_z (by omega)).mpr c), if_pos c, show (1 : Int32) = nI 1 from rfl, pk_sub (by omega), nI_clamp (by omega)]
    by_cases d : km.1 ((t + 1) / 8 - 1) = 255
    · rw [if_pos d, if_pos d]
    · rw [if_neg d, if_neg d]
  · rw [if_neg (fun q => c ((q_z (by omega)).mp q)), if_neg c]
theorem pb_step {cr km : Rw} {af : Int32} {n t me : Nat} (hK : Kq cr km n) (ht : t < 8 * n) (hm : 8 * me ≤ t) (hP : Pb cr af n t me) (hq : t % 8 = 0 → cr.1 (t / 8) = 255 → t / 8 + 1 < n ∧ (cr.1 (t / 8 + 1)).toInt < 128) : Pb cr (aft km t af) n (t + 1) me := by
  obtain ⟨p1, p2, p3⟩ := hP
  have h600 := hK.1
  have heq := (hK.2.2.2 (t / 8) (by omega)).1
  by_cases c : (t + 1) % 8 = 0
  · have hv : aft km t af = if cr.1 (t / 8) = 255 then 1 else 0 := by
      unfold aft; rw [if_pos c, show (t + 1) / 8 - 1 = t / 8 by omega, heq]
    have hv2 : ¬ aft km t af = 0 ↔ cr.1 (t / 8) = 255 := by
      rw [hv]; by_cases d : cr.1 (t / 8) = 255
      · rw [if_pos d]; exact ⟨fun _ => d, fun _ => by decide⟩
      · rw [if_neg d]; exact ⟨fun q => absurd rfl q, fun q => absurd q d⟩
    refine ⟨?_, fun q => ?_, fun q => absurd c q⟩
    · rw [hv2]; unfold full
      rw [show (t + 1) / 8 - 1 = t / 8 by omega]
      exact ⟨fun q => ⟨by omega, by omega, q⟩, fun q => q.2.2⟩
    · have := p3 (by omega) (hv2.mp q)
      rw [show (t + 1) / 8 = t / 8 + 1 by omega]; exact this
  · have hv : aft km t af = af := by unfold aft; rw [if_neg c]
    rw [hv]
    have e : (t + 1) / 8 = t / 8 := by omega
    refine ⟨?_, ?_, fun _ => ?_⟩
    · rw [p1]; unfold full; rw [e]
    · rw [e]; exact p2
    · rw [e]
      by_cases d : t % 8 = 0
      · exact hq d
      · exact p3 d
/-- what is met where the next bit stands -/
theorem r_meet {st lf ao sib th : Int32} {wr : Rw} {tw : Tk} {cr : Rw} {tr : Tk} {bad : Int32} {bm : Bm} {km : Rw} {qm : Tk} {bd : Int32} {ym : Tk} {n t me : Nat} (hK : Kq cr km n) (hS : Sv st cr tr ym n t me) :
    FX2_meetHere st lf ao sib wr tw cr tr bad = FX3_obstacle st lf th bm km qm bd ym ∧ (FX3_obstacle st lf th bm km qm bd ym = 0 ∨ FX3_obstacle st lf th bm km qm bd ym = -1 ∨ FX3_obstacle st lf th bm km qm bd ym = -2) ∧
    (FX3_obstacle st lf th bm km qm bd ym = 0 → t < 8 * n ∧ (st = 1 → t % 8 = 0 → cr.1 (t / 8) = 255 → t / 8 + 1 < n ∧ (cr.1 (t / 8 + 1)).toInt < 128)) := by
  obtain ⟨hM, h1, h2, -⟩ := hS
  obtain ⟨m1, m2, m3, m4, m5⟩ := hM
  obtain ⟨k1, k2, k3, k4⟩ := id hK
  have i127 : (127 : Int32).toInt = 127 := rfl
  have i128 : (128 : Int32).toInt = 128 := rfl
  unfold FX2_meetHere FX3_obstacle FX1_isWithin FX1_isAtByte FX0_isMarkAt
  dsimp only
  rw [h1, m3, k2, k3, show (8 : Int32) * nI n = nI (8 * n) from by rw [show (8 : Int32) = nI 8 from rfl, pk_mul], q_sh3 (by omega), q_an7 (by omega), q_rm8 (by omega), q_dv8 (by omega), nI_1]
  by_cases c : 8 * n ≤ t
  · rw [if_pos (nI_le c (by omega)), if_pos rfl, if_neg (by rw [nI_ltI (by omega) (by omega)]; omega)]
    exact ⟨rfl, Or.inr (Or.inl rfl), fun q => absurd q (by decide)⟩
  · have c' : ¬ nI (8 * n) ≤ nI t := by rw [nI_leI (by omega) (by omega)]; exact c
    rw [if_neg c', if_neg (by decide), if_pos (nI_lt (show t / 8 < n by omega) (by omega))]
    by_cases d : st = 1
    · rw [if_pos d, if_pos d]
      by_cases e : t % 8 = 0
      · have e' : nI (t % 8) = 0 := (q_z (by omega)).mpr e
        rw [if_pos e', if_neg (by decide), if_pos e', q_byteOf (by omega), nI_clamp (by omega), ← (k4 (t / 8) (by omega)).1]
        by_cases f : cr.1 (t / 8) = 255
        · simp only [if_pos f]
          by_cases g : t / 8 + 1 < n
          · have g1 : nI (t / 8 + 1) < nI n := nI_lt g (by omega)
            have g2 : ¬ nI n ≤ nI (t / 8 + 1) := by rw [nI_leI (by omega) (by omega)]; omega
            simp only [if_pos g1, if_neg g2]
            rw [q_byteOf (j := t / 8 + 1) (by omega), nI_clamp (n := t / 8 + 1) (by omega), ← (k4 (t / 8 + 1) g).1]
            by_cases u : (cr.1 (t / 8 + 1)).toInt < 128
            · have u1 : cr.1 (t / 8 + 1) < 128 := by rw [ltI, i128]; exact u
              have u2 : cr.1 (t / 8 + 1) ≤ 127 := by rw [leI, i127]; omega
              simp only [if_pos u1, if_pos u2, if_true]
              exact ⟨trivial, Or.inl trivial, fun _ => ⟨by omega, fun _ _ _ => ⟨g, u⟩⟩⟩
            · have u1 : ¬ cr.1 (t / 8 + 1) < 128 := by rw [ltI, i128]; exact u
              have u2 : ¬ cr.1 (t / 8 + 1) ≤ 127 := by rw [leI, i127]; omega
              simp only [if_neg u1, if_neg u2, if_neg z10]
              exact ⟨trivial, Or.inr (Or.inr trivial), fun q => absurd q (by decide)⟩
          · have g' : ¬ nI (t / 8 + 1) < nI n := by rw [nI_ltI (by omega) (by omega)]; exact g
            simp only [if_neg g']
            exact ⟨trivial, Or.inr (Or.inl trivial), fun q => absurd q (by decide)⟩
        · rw [if_neg f, if_neg f]
          exact ⟨rfl, Or.inl rfl, fun _ => ⟨by omega, fun _ _ q => absurd q f⟩⟩
      · have e' : ¬ nI (t % 8) = 0 := fun q => e ((q_z (by omega)).mp q)
        rw [if_neg e', if_pos rfl, if_neg e']
        exact ⟨rfl, Or.inl rfl, fun _ => ⟨by omega, fun _ q => absurd q e⟩⟩
    · rw [if_neg d, if_neg d]
      exact ⟨rfl, Or.inl rfl, fun _ => ⟨by omega, fun q => absurd q d⟩⟩
/-- a stuffed bit that is due where the class reads -/
theorem r_stuffed {st lf ao sib : Int32} {wr : Rw} {tw : Tk} {cr : Rw} {tr : Tk} {bad : Int32} {km : Rw} {n t : Nat} (hK : Kq cr km n) (ht : t ≤ 8 * n) (h1 : tr.1 = nI t) :
    FX2_readStuffedIfDue st lf ao sib wr tw cr tr bad = if FX1_isStuffedDue st sib lf tr cr = 0 then (0, tr) else if t < 8 * n then (if FX0_bitOf lf cr (nI t) = 0 then (0, (nI (t + 1), tr.2.1 + 1, 0, tr.2.2.2)) else (-3, tr)) else (-1, tr) := by
  have := hK.1
  unfold FX2_readStuffedIfDue FX1_isWithin FX1_stepOverStuffed
  dsimp only
  rw [h1, hK.2.1, show (8 : Int32) * nI n = nI (8 * n) from by rw [show (8 : Int32) = nI 8 from rfl, pk_mul], nI_1]
  by_cases c : FX1_isStuffedDue st sib lf tr cr = 0
  · rw [if_pos c, if_pos c]
  · rw [if_neg c, if_neg c]
    by_cases d : t < 8 * n
    · have d' : ¬ nI (8 * n) ≤ nI t := by rw [nI_leI (by omega) (by omega)]; omega
      rw [if_neg d', if_neg (by decide), if_pos d]
    · rw [if_pos (nI_le (by omega) (by omega)), if_pos rfl, if_neg d]
theorem r_191 {st lf th : Int32} {cr : Rw} {bm : Bm} {km : Rw} {qm : Tk} {bd : Int32} {ym : Tk} {bt : Int32} {n t : Nat} (hK : Kq cr km n) (ht : t ≤ 8 * n) (h : ym.1 = nI t) :
    LX3_tryBit_191 st lf th bm km qm bd ym bt = if t < 8 * n then (if FX0_bitOf lf cr (nI t) = 0 then (bt, (nI (t + 1), ym.2.1 + 1, 0, aft km t ym.2.2.2)) else (-3, ym)) else (-1, ym) := by
  have := hK.1
  unfold LX3_tryBit_191
  dsimp only
  rw [h, q_dv8 (by omega), hK.2.2.1]
  by_cases d : t < 8 * n
  · rw [if_pos (nI_lt (by omega) (by omega)), if_pos d, r_bit_eq hK d]
    have hb : isB (FX0_bitOf lf cr (nI t)) := r_isB
    rw [q_goOn (ym := (nI t, ym.2.1 + 1, 0, ym.2.2.2)) rfl (by omega)]
    rcases hb with e | e
    · rw [e, if_neg (by decide), if_pos rfl]
    · rw [e, if_pos rfl, if_neg (by decide)]
  · rw [if_neg (by rw [nI_ltI (by omega) (by omega)]; omega), if_neg d]
/-- the bit itself: the class -/
def cmain (st lf ao sib : Int32) (wr : Rw) (tw : Tk) (cr : Rw) (u : Tk) (bad : Int32) : Int32 × Tk :=
  if ao = 0 then (FX0_bitOf lf cr u.1, FX1_stepOver st sib lf u cr (FX0_bitOf lf cr u.1)) else
  if (FX2_readStuffedIfDue st lf ao sib wr tw cr (FX1_stepOver st sib lf u cr (FX0_bitOf lf cr u.1)) bad).1 = 0 then (FX0_bitOf lf cr u.1, (FX2_readStuffedIfDue st lf ao sib wr tw cr (FX1_stepOver st sib lf u cr (FX0_bitOf lf cr u.1)) bad).2) else
  ((FX2_readStuffedIfDue st lf ao sib wr tw cr (FX1_stepOver st sib lf u cr (FX0_bitOf lf cr u.1)) bad).1, (FX2_readStuffedIfDue st lf ao sib wr tw cr (FX1_stepOver st sib lf u cr (FX0_bitOf lf cr u.1)) bad).2)
theorem r_main {st lf ao sib th : Int32} {wr : Rw} {tw : Tk} {cr : Rw} {tr : Tk} {bad : Int32} {bm : Bm} {km : Rw} {qm : Tk} {bd : Int32} {ym : Tk} {n t me : Nat} (h0 : 0 ≤ st.toInt) (h16 : st.toInt ≤ 16) (hao : ao = 0 ↔ (lf = 0 ∧ st = 1)) (hs : sib = if lf = 0 then 0 else 7) (hK : Kq cr km n) (ht : t < 8 * n) (hS : Sv st cr tr ym n t me) (hq : st = 1 → t % 8 = 0 → cr.1 (t / 8) = 255 → t / 8 + 1 < n ∧ (cr.1 (t / 8 + 1)).toInt < 128) :
    (cmain st lf ao sib wr tw cr tr bad).1 = (LX3_tryBit_82 st lf th bm km qm bd ym).1 ∧ (cmain st lf ao sib wr tw cr tr bad).2.2.2.2 = nI me ∧ (0 ≤ (cmain st lf ao sib wr tw cr tr bad).1.toInt → isB (cmain st lf ao sib wr tw cr tr bad).1 ∧ ∃ t', Rv st lf cr (cmain st lf ao sib wr tw cr tr bad).2 (LX3_tryBit_82 st lf th bm km qm bd ym).2 n t' me) := by
  obtain ⟨hM, h1, h2, h3, h4⟩ := hS
  obtain ⟨m1, m2, m3, m4, m5⟩ := hM
  have h600 := hK.1
  have hbB : isB (FX0_bitOf lf cr (nI t)) := r_isB
  unfold cmain LX3_tryBit_82 LX3_tryBit_132
  dsimp only
  rw [h1, m3, r_bit_eq hK ht, q_goOn m3 (by omega), q_rm8 (by omega)]
  dsimp only
  generalize hbt : FX0_bitOf lf cr (nI t) = b at hbB ⊢
  have hk1 : (FX1_stepOver st sib lf tr cr b).1 = nI (t + 1) := by unfold FX1_stepOver; dsimp only; split <;> (show tr.1 + 1 = _; rw [h1, nI_1])
  have hk2 : (FX1_stepOver st sib lf tr cr b).2.2.2 = nI me := by unfold FX1_stepOver; dsimp only; split <;> exact h2
  have hk3 : (FX1_stepOver st sib lf tr cr b).2.1 = ym.2.1 := by unfold FX1_stepOver; dsimp only; split <;> exact h3
  have hk4 : (FX1_stepOver st sib lf tr cr b).2.2.1 = if b = 1 then tr.2.2.1 + 1 else 0 := by unfold FX1_stepOver; dsimp only; split <;> rfl
  generalize FX1_stepOver st sib lf tr cr b = k at hk1 hk2 hk3 hk4 ⊢
  have hd := q_due (rs := cr) h0 hs hk1 hk2 (by omega) (by omega)
  have hst := r_stuffed (st := st) (lf := lf) (ao := ao) (sib := sib) (wr := wr) (tw := tw) (bad := bad) hK (by omega) hk1
  have hone : ∀ la : Int32, (if b = 1 then LX3_tryBit_155 st lf th bm km qm bd (nI (t + 1), ym.2.1, ym.2.2.1 + 1, aft km t ym.2.2.2) b la else LX3_tryBit_155 st lf th bm km qm bd (nI (t + 1), ym.2.1, 0, aft km t ym.2.2.2) b la) = LX3_tryBit_155 st lf th bm km qm bd (nI (t + 1), ym.2.1, (if b = 1 then ym.2.2.1 + 1 else 0), aft km t ym.2.2.2) b la := by
    intro la; split <;> rfl
  simp only [hone]
  have hb0 : 0 ≤ b.toInt := by rcases hbB with e | e <;> rw [e] <;> decide
  rcases st_cases h0 with e | e | hb2
  · have hnd : FX1_isStuffedDue st sib lf k cr = 0 := by
      by_cases c : FX1_isStuffedDue st sib lf k cr = 0
      · exact c
      · rcases hd.mp c with q | q
        · rw [e] at q; exact absurd q.1 (by decide)
        · rw [e] at q; exact absurd q.1 (by decide)
    have e1 : ¬ st = 1 := by rw [e]; decide
    have e2 : st ≤ 1 := by rw [e]; decide
    rw [if_pos hnd] at hst
    rw [if_neg (fun q => e1 (hao.mp q).2), hst, if_pos rfl, if_neg e1]
    unfold LX3_tryBit_155
    rw [if_pos e2, if_pos rfl]
    refine ⟨rfl, hk2, fun _ => ⟨hbB, t + 1, ⟨⟨by omega, by omega, rfl, aft_B m4, fun q => absurd q e1⟩, hk1, hk2, hk3, fun q => ?_⟩, fun q => absurd q e1⟩⟩
    rw [e] at q; exact absurd q (by decide)
  · have e2 : st ≤ 1 := by rw [e]; decide
    have hP := pb_step hK ht m2 (m5 e) (hq e)
    have nb : ¬ 1 < st.toInt := by rw [e]; decide
    by_cases hlf : lf = 0
    · rw [if_pos (hao.mpr ⟨hlf, e⟩), if_pos e, if_pos hlf]
      unfold LX3_tryBit_155
      rw [if_pos e2, if_pos rfl]
      exact ⟨rfl, hk2, fun _ => ⟨hbB, t + 1, ⟨⟨by omega, by omega, rfl, aft_B m4, fun _ => hP⟩, hk1, hk2, hk3, fun q => absurd q nb⟩, fun _ q => absurd hlf q⟩⟩
    · rw [if_neg (fun q => hlf (hao.mp q).1), if_pos e, if_neg hlf]
      by_cases c : FX1_isStuffedDue st sib lf k cr = 0
      · rw [if_pos c] at hst
        rw [hst, if_pos rfl]
        have hnn : ¬ ((t + 1) % 8 = 7 ∧ ¬ aft km t ym.2.2.2 = 0) := fun q => hd.mpr (Or.inr ⟨e, by rw [if_neg hlf]; exact q.1, hP.1.mp q.2⟩) c
        have hy : (if ym.2.2.2 = 0 then LX3_tryBit_155 st lf th bm km qm bd (nI (t + 1), ym.2.1, (if b = 1 then ym.2.2.1 + 1 else 0), aft km t ym.2.2.2) b 0 else if nI (t % 8) = 6 then LX3_tryBit_155 st lf th bm km qm bd (nI (t + 1), ym.2.1, (if b = 1 then ym.2.2.1 + 1 else 0), aft km t ym.2.2.2) b 1 else LX3_tryBit_155 st lf th bm km qm bd (nI (t + 1), ym.2.1, (if b = 1 then ym.2.2.1 + 1 else 0), aft km t ym.2.2.2) b 0) = LX3_tryBit_155 st lf th bm km qm bd (nI (t + 1), ym.2.1, (if b = 1 then ym.2.2.1 + 1 else 0), aft km t ym.2.2.2) b 0 := by
          by_cases d : ym.2.2.2 = 0
          · rw [if_pos d]
          · rw [if_neg d, if_neg]
            rw [q_6 (by omega)]
            intro q
            refine hnn ⟨by omega, ?_⟩
            unfold aft; rw [if_neg (by omega)]; exact d
        rw [hy]
        unfold LX3_tryBit_155
        rw [if_pos e2, if_pos rfl]
        exact ⟨rfl, hk2, fun _ => ⟨hbB, t + 1, ⟨⟨by omega, by omega, rfl, aft_B m4, fun _ => hP⟩, hk1, hk2, hk3, fun q => absurd q nb⟩, fun _ _ => hnn⟩⟩
      · rw [if_neg c] at hst
        rcases hd.mp c with q | ⟨_, q, q2⟩
        · exact absurd q.1 nb
        rw [if_neg hlf] at q
        have hv0 := hP.1.mpr q2
        have hv1 : ¬ ym.2.2.2 = 0 := by
          unfold aft at hv0; rw [if_neg (by omega)] at hv0; exact hv0
        have h6 : nI (t % 8) = 6 := by rw [q_6 (by omega)]; omega
        have hlt : t + 1 < 8 * n := by omega
        rw [if_neg hv1, if_pos h6]
        unfold LX3_tryBit_155
        rw [if_pos e2, if_neg z10, r_191 hK (by omega) rfl, hst, if_pos hlt, if_pos hlt]
        by_cases g : FX0_bitOf lf cr (nI (t + 1)) = 0
        · rw [if_pos g, if_pos g, if_pos rfl]
          have hlow := (hP.2.1 hv0).2
          have hP2 := pb_step hK (t := t + 1) (by omega) (by omega) hP (fun q => by omega)
          refine ⟨rfl, hk2, fun _ => ⟨hbB, t + 2, ⟨⟨by omega, by omega, rfl, aft_B (aft_B m4), fun _ => hP2⟩, rfl, hk2, ?_, fun q => absurd q nb⟩, fun _ _ q => by omega⟩⟩
          show k.2.1 + 1 = ym.2.1 + 1; rw [hk3]
        · rw [if_neg g, if_neg g]
          dsimp only
          rw [if_neg z30]
          exact ⟨rfl, hk2, fun q => absurd q z3l⟩
  · have hq2 := st_big hb2
    have h4' := h4 hb2
    rw [if_neg (fun q => hq2.2.1 (hao.mp q).2), if_neg hq2.2.1]
    have hones : k.2.2.1 = if b = 1 then ym.2.2.1 + 1 else 0 := by rw [hk4, h4'.1]
    unfold LX3_tryBit_155
    rw [if_neg hq2.1]
    dsimp only
    rw [← hones]
    by_cases c : k.2.2.1 = st
    · rw [if_neg (hd.mpr (Or.inl ⟨hb2, c⟩))] at hst
      rw [if_pos c, if_pos rfl, r_191 hK (by omega) rfl, hst]
      by_cases g0 : t + 1 < 8 * n
      · rw [if_pos g0, if_pos g0]
        by_cases g : FX0_bitOf lf cr (nI (t + 1)) = 0
        · rw [if_pos g, if_pos g, if_pos rfl]
          refine ⟨rfl, hk2, fun _ => ⟨hbB, t + 2, ⟨⟨by omega, by omega, rfl, aft_B (aft_B m4), fun q => absurd q hq2.2.1⟩, rfl, hk2, ?_, fun _ => ⟨rfl, ?_, ?_⟩⟩, fun q => absurd q hq2.2.1⟩⟩
          · show k.2.1 + 1 = ym.2.1 + 1; rw [hk3]
          · show 0 ≤ (0 : Int32).toInt; decide
          · show (0 : Int32).toInt < _; rw [i0]; omega
        · rw [if_neg g, if_neg g]
          dsimp only
          rw [if_neg z30]
          exact ⟨rfl, hk2, fun q => absurd q z3l⟩
      · rw [if_neg g0, if_neg g0]
        dsimp only
        rw [if_neg z110]
        exact ⟨rfl, hk2, fun q => absurd q z1l⟩
    · have hnd : FX1_isStuffedDue st sib lf k cr = 0 := by
        by_cases d : FX1_isStuffedDue st sib lf k cr = 0
        · exact d
        · rcases hd.mp d with q | q
          · exact absurd q.2 c
          · exact absurd q.1 hq2.2.1
      rw [if_pos hnd] at hst
      rw [if_neg c, if_pos rfl, hst, if_pos rfl]
      refine ⟨rfl, hk2, fun _ => ⟨hbB, t + 1, ⟨⟨by omega, by omega, rfl, aft_B m4, fun q => absurd q hq2.2.1⟩, hk1, hk2, hk3, fun _ => ⟨rfl, ?_⟩⟩, fun q => absurd q hq2.2.1⟩⟩
      show 0 ≤ k.2.2.1.toInt ∧ k.2.2.1.toInt < st.toInt
      rw [eqI] at c
      rw [hk4] at c ⊢
      by_cases d : b = 1
      · rw [if_pos d] at c ⊢
        have := addI (x := tr.2.2.1) (y := 1) (n := tr.2.2.1.toInt + 1) (by rw [j1]) (by omega) (by omega)
        omega
      · rw [if_neg d, i0]; omega
/-- one bit read, whole -/
theorem r_bit {st lf ao sib th : Int32} {wr : Rw} {tw : Tk} {cr : Rw} {tr : Tk} {bad : Int32} {bm : Bm} {km : Rw} {qm : Tk} {bd : Int32} {ym : Tk} {n t me : Nat} (h0 : 0 ≤ st.toInt) (h16 : st.toInt ≤ 16) (hao : ao = 0 ↔ (lf = 0 ∧ st = 1)) (hs : sib = if lf = 0 then 0 else 7) (hK : Kq cr km n) (hV : Rv st lf cr tr ym n t me) :
    (FX2_readBit st lf ao sib wr tw cr tr bad).1 = (FX3_tryBit st lf th bm km qm bd ym).1 ∧ (FX2_readBit st lf ao sib wr tw cr tr bad).2.2.2.2 = nI me ∧ (0 ≤ (FX2_readBit st lf ao sib wr tw cr tr bad).1.toInt → isB (FX2_readBit st lf ao sib wr tw cr tr bad).1 ∧ ∃ t', Rv st lf cr (FX2_readBit st lf ao sib wr tw cr tr bad).2 (FX3_tryBit st lf th bm km qm bd ym).2 n t' me) := by
  obtain ⟨hS, hV2⟩ := id hV
  obtain ⟨hM, h1, h2, h3, h4⟩ := id hS
  obtain ⟨m1, m2, m3, m4, m5⟩ := id hM
  have h600 := hK.1
  obtain ⟨a1, a2, a3⟩ := r_meet (lf := lf) (ao := ao) (sib := sib) (wr := wr) (tw := tw) (bad := bad) (th := th) (bm := bm) (qm := qm) (bd := bd) hK hS
  have hd := q_due (rs := cr) h0 hs h1 h2 (by omega) m2
  have hst := r_stuffed (st := st) (lf := lf) (ao := ao) (sib := sib) (wr := wr) (tw := tw) (bad := bad) hK m1 h1
  have hcm : FX2_readBit st lf ao sib wr tw cr tr bad = if FX2_meetHere st lf ao sib wr tw cr tr bad = 0 then (if (FX2_readStuffedIfDue st lf ao sib wr tw cr tr bad).1 = 0 then cmain st lf ao sib wr tw cr (FX2_readStuffedIfDue st lf ao sib wr tw cr tr bad).2 bad else FX2_readStuffedIfDue st lf ao sib wr tw cr tr bad) else (FX2_meetHere st lf ao sib wr tw cr tr bad, tr) := by
    unfold FX2_readBit cmain
    dsimp only
    by_cases c : FX2_meetHere st lf ao sib wr tw cr tr bad = 0
    · rw [if_pos c, if_pos c]
      by_cases d : (FX2_readStuffedIfDue st lf ao sib wr tw cr tr bad).1 = 0
      · rw [if_pos d, if_pos d, if_pos d]
      · rw [if_neg d, if_neg d]
    · rw [if_neg c, if_neg c, if_neg c]
  rw [hcm, a1]
  by_cases c : FX3_obstacle st lf th bm km qm bd ym = 0
  · obtain ⟨b1, b2⟩ := a3 c
    rw [if_pos c]
    have htr : FX3_tryBit st lf th bm km qm bd ym = if (t % 8 = 0 ∧ st = 1 ∧ lf = 0 ∧ ¬ ym.2.2.2 = 0) then (if FX0_bitOf lf cr (nI t) = 0 then LX3_tryBit_82 st lf th bm km qm bd (nI (t + 1), ym.2.1 + 1, ym.2.2.1, aft km t ym.2.2.2) else (-3, ym)) else LX3_tryBit_82 st lf th bm km qm bd ym := by
      unfold FX3_tryBit
      dsimp only
      rw [c, if_pos (by decide), m3, q_rm8 (by omega)]
      by_cases d : t % 8 = 0 ∧ st = 1 ∧ lf = 0 ∧ ¬ ym.2.2.2 = 0
      · obtain ⟨d1, d2, d3, d4⟩ := id d
        have d1' : nI (t % 8) = 0 := (q_z (by omega)).mpr d1
        rw [if_pos d, if_pos d1', if_pos d2, if_pos d3, if_neg d4, r_bit_eq hK b1, q_goOn (ym := (nI t, ym.2.1 + 1, ym.2.2.1, ym.2.2.2)) rfl (by omega)]
        have hb : isB (FX0_bitOf lf cr (nI t)) := r_isB
        rcases hb with e | e
        · rw [e, if_neg (by decide), if_pos rfl]
        · rw [e, if_pos rfl, if_neg (by decide)]
      · rw [if_neg d]
        by_cases d1 : nI (t % 8) = 0
        · have d1' := (q_z (by omega)).mp d1
          rw [if_pos d1]
          by_cases d2 : st = 1
          · rw [if_pos d2]
            by_cases d3 : lf = 0
            · rw [if_pos d3]
              by_cases d4 : ym.2.2.2 = 0
              · rw [if_pos d4]
              · exact absurd ⟨d1', d2, d3, d4⟩ d
            · rw [if_neg d3]
          · rw [if_neg d2]
        · rw [if_neg d1]
          by_cases d2 : st = 1
          · rw [if_pos d2]
            by_cases d3 : lf = 0
            · rw [if_pos d3]
              by_cases d4 : ym.2.2.2 = 0
              · rw [if_pos d4]
              · rw [if_neg d4]
            · rw [if_neg d3]
          · rw [if_neg d2]
    rw [htr]
    by_cases d : t % 8 = 0 ∧ st = 1 ∧ lf = 0 ∧ ¬ ym.2.2.2 = 0
    · obtain ⟨d1, d2, d3, d4⟩ := id d
      rw [if_pos d]
      have hP := m5 d2
      have hdue := hd.mpr (Or.inr ⟨d2, by rw [if_pos d3]; exact d1, hP.1.mp d4⟩)
      rw [if_neg hdue, if_pos b1] at hst
      rw [hst]
      by_cases g : FX0_bitOf lf cr (nI t) = 0
      · rw [if_pos g, if_pos g]
        dsimp only
        rw [if_pos rfl]
        have hlow := hP.2.1 d4
        have hne : ¬ cr.1 (t / 8) = 255 := by
          intro q; have := hlow.2; rw [q] at this; exact absurd this (by decide)
        have hP2 := pb_step hK b1 m2 hP (fun _ q => absurd q hne)
        refine r_main h0 h16 hao hs hK (t := t + 1) (by omega) ⟨⟨by omega, by omega, rfl, aft_B m4, fun _ => hP2⟩, rfl, h2, ?_, fun q => ?_⟩ (fun _ q => by omega)
        · show tr.2.1 + 1 = ym.2.1 + 1; rw [h3]
        · rw [d2] at q; exact absurd q (by decide)
      · rw [if_neg g, if_neg g]
        dsimp only
        rw [if_neg z30]
        exact ⟨rfl, h2, fun q => absurd q z3l⟩
    · rw [if_neg d]
      have hnd : FX1_isStuffedDue st sib lf tr cr = 0 := by
        by_cases e : FX1_isStuffedDue st sib lf tr cr = 0
        · exact e
        · rcases hd.mp e with q | ⟨q1, q2, q3⟩
          · have := (h4 q.1).2.2; rw [q.2] at this; omega
          · have haf := (m5 q1).1.mpr q3
            by_cases hlf : lf = 0
            · rw [if_pos hlf] at q2; exact absurd ⟨q2, q1, hlf, haf⟩ d
            · rw [if_neg hlf] at q2; exact absurd ⟨q2, haf⟩ (hV2 q1 hlf)
      rw [if_pos hnd] at hst
      rw [hst]
      dsimp only
      rw [if_pos rfl]
      exact r_main h0 h16 hao hs hK b1 hS b2
  · rw [if_neg c]
    have htr : FX3_tryBit st lf th bm km qm bd ym = (FX3_obstacle st lf th bm km qm bd ym, ym) := by
      unfold FX3_tryBit
      dsimp only
      rw [if_neg]
      rcases a2 with q | q | q
      · exact absurd q c
      · rw [q]; decide
      · rw [q]; decide
    rw [htr]
    refine ⟨rfl, h2, fun q => ?_⟩
    have q : 0 ≤ (FX3_obstacle st lf th bm km qm bd ym).toInt := q
    rcases a2 with e | e | e
    · exact absurd e c
    · rw [e] at q; exact absurd q (by decide)
    · rw [e] at q; exact absurd q (by decide)
