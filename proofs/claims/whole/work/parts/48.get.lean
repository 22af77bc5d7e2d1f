theorem wb_tb (n : Nat) : (lN n).toBitVec = BitVec.ofNat 64 n := rfl
theorem wb_inj {a b : Int64} (h : a.toBitVec = b.toBitVec) : a = b := Int64.toBitVec_inj.mp h
theorem wb_tn {n : Nat} (h : n < 2 ^ 64) : (lN n).toBitVec.toNat = n := by rw [wb_tb, BitVec.toNat_ofNat, Nat.mod_eq_of_lt h]
theorem wb_of (x : Int64) : ∃ n, n < 2 ^ 64 ∧ x = lN n := ⟨x.toBitVec.toNat, x.toBitVec.isLt, wb_inj (by rw [wb_tb]; simp)⟩
theorem wb_of32 (x : Int32) : ∃ n, n < 2 ^ 32 ∧ x = nI n := ⟨x.toBitVec.toNat, x.toBitVec.isLt, Int32.toBitVec_inj.mp (by show _ = BitVec.ofNat 32 _; simp)⟩
theorem wb_c : ∀ k, k < 64 → ((nI k).toInt64 &&& 63) = lN k := by decide +kernel
theorem wb_sm : ∀ k, k < 64 → (BitVec.ofNat 64 k).smod 64 = BitVec.ofNat 64 k := by decide +kernel
theorem wb_pw {a b : Nat} (h : a ≤ b) : 2 ^ b = 2 ^ a * 2 ^ (b - a) := by rw [← Nat.pow_add]; congr 1; omega
theorem wb_lt2 {a b : Nat} (h : a < b) : 2 ^ a < 2 ^ b := Nat.pow_lt_pow_right (by decide) h
theorem wb_mod (n : Nat) : lN n = lN (n % 2 ^ 64) := wb_inj (by rw [wb_tb, wb_tb]; apply BitVec.eq_of_toNat_eq; rw [BitVec.toNat_ofNat, BitVec.toNat_ofNat, Nat.mod_mod])
theorem wb_shl (n : Nat) {k : Nat} (hk : k < 64) : lN n <<< ((nI k).toInt64 &&& 63) = lN (n * 2 ^ k) := by
  rw [wb_c k hk]
  apply wb_inj
  rw [Int64.toBitVec_shiftLeft, wb_tb, wb_tb, wb_tb, wb_sm k hk]
  apply BitVec.eq_of_toNat_eq
  rw [BitVec.shiftLeft_eq', BitVec.toNat_shiftLeft, BitVec.toNat_ofNat, BitVec.toNat_ofNat, BitVec.toNat_ofNat, Nat.mod_eq_of_lt (show k < 2 ^ 64 by omega), Nat.shiftLeft_eq, Nat.mul_mod, Nat.mod_mod, ← Nat.mul_mod]
theorem wb_or {a b : Nat} (ha : a < 2 ^ 64) (hb : b < 2 ^ 64) : lN a ||| lN b = lN (a ||| b) := by
  apply wb_inj
  rw [Int64.toBitVec_or, wb_tb, wb_tb, wb_tb]
  apply BitVec.eq_of_toNat_eq
  rw [BitVec.toNat_or, BitVec.toNat_ofNat, BitVec.toNat_ofNat, BitVec.toNat_ofNat, Nat.mod_eq_of_lt ha, Nat.mod_eq_of_lt hb, Nat.mod_eq_of_lt (Nat.or_lt_two_pow ha hb)]
/-! FIELDS READ -/
def vrel (lf : Int32) (b i : Nat) (fd v : Int64) : Prop := (¬ lf = 0 → fd = v) ∧ (lf = 0 → ∃ V : Nat, V < 2 ^ i ∧ v = lN V ∧ fd = lN (V * 2 ^ (b - i)))
theorem v_step {b i : Nat} {fd v : Int64} {r : Int32} {lf : Int32} (hb : b ≤ 32) (hi : i < b) (hr : isB r) (h : vrel lf b i fd v) :
    vrel lf b (i + 1) (fd ||| (r.toInt64 <<< ((fsh lf (nI b) (nI i)).toInt64 &&& 63))) (if lf = 0 then (2 * v) + r.toInt64 else v ||| (r.toInt64 <<< ((nI i).toInt64 &&& 63))) := by
  refine ⟨fun c => ?_, fun c => ?_⟩
  · unfold fsh
    rw [if_neg c, if_neg c, h.1 c]
  · unfold fsh
    rw [if_pos c, if_pos c]
    obtain ⟨V, v1, v2, v3⟩ := h.2 c
    have hs : nI b - 1 - nI i = nI (b - 1 - i) := by rw [show (1 : Int32) = nI 1 from rfl, pk_sub (by omega), pk_sub (by omega)]
    rw [hs, v2, v3]
    obtain ⟨ρ, h1, h2⟩ : ∃ ρ : Nat, ρ ≤ 1 ∧ r = nI ρ := by
      rcases hr with e | e
      · exact ⟨0, by omega, e⟩
      · exact ⟨1, by omega, e⟩
    rw [h2, nI_l (by omega)]
    have hpow : 2 ^ (b - i) = 2 * 2 ^ (b - 1 - i) := by rw [show b - i = (b - 1 - i) + 1 by omega, Nat.pow_succ]; omega
    have hmul : V * 2 ^ (b - i) < 2 ^ 64 := by
      have a1 : V * 2 ^ (b - i) < 2 ^ i * 2 ^ (b - i) := Nat.mul_lt_mul_of_pos_right v1 (Nat.pow_pos (by decide))
      rw [← Nat.pow_add, show i + (b - i) = b by omega] at a1
      have a2 : 2 ^ b ≤ 2 ^ 32 := Nat.pow_le_pow_right (by decide) hb
      omega
    have hs2 : ρ * 2 ^ (b - 1 - i) < 2 ^ (b - i) := by
      have : 0 < 2 ^ (b - 1 - i) := Nat.pow_pos (by decide)
      have : ρ * 2 ^ (b - 1 - i) ≤ 1 * 2 ^ (b - 1 - i) := Nat.mul_le_mul_right _ h1
      omega
    have hs3 : 2 ^ (b - i) ≤ 2 ^ 32 := Nat.pow_le_pow_right (by decide) (by omega)
    rw [wb_shl ρ (by omega), wb_or hmul (by omega)]
    refine ⟨2 * V + ρ, ?_, ?_, ?_⟩
    · rw [Nat.pow_succ]; omega
    · rw [show (2 : Int64) = lN 2 from rfl, lN_mul, lN_add]
    · congr 1
      rw [Nat.mul_comm V, ← Nat.two_pow_add_eq_or_of_lt hs2, show b - (i + 1) = b - 1 - i by omega, hpow, Nat.add_mul, Nat.mul_comm (2 * 2 ^ (b - 1 - i)) V, ← Nat.mul_assoc, Nat.mul_comm V 2]
theorem get_loop {st lf ao sib th : Int32} {wr : Rw} {tw : Tk} {cr : Rw} {tr0 : Tk} {bad : Int32} {bm : Bm} {km : Rw} {qm : Tk} {bd : Int32} {p0 : Int32} {n b me : Nat} (h0 : 0 ≤ st.toInt) (h16 : st.toInt ≤ 16) (hao : ao = 0 ↔ (lf = 0 ∧ st = 1)) (hs : sib = if lf = 0 then 0 else 7) (hK : Kq cr km n) (hbd : bad = bd) (hb : p0 = nI b) (hb2 : b ≤ 32) (h3 : tr0.2.2.2 = nI me) :
    ∀ (k i t : Nat) (tr ym : Tk) (fd v : Int64), b - i < k → i ≤ b → Rv st lf cr tr ym n t me → vrel lf b i fd v →
    ∃ r tr' qm' bd' ym', LX2_get_46 st lf ao sib k wr tw cr tr bad p0 tr0.1 tr0.2.1 tr0.2.2.1 fd (nI i) = Sum.inr (r, tr', bd') ∧ LX3_get_50 st lf k th bm km qm bd ym p0 v (nI i) = (r, th, qm', bd', ym') ∧ ((tr' = tr0 ∧ qm' = qm ∧ isB bd') ∨ (bd' = bd ∧ ∃ t', Rv st lf cr tr' qm' n t' me)) := by
  intro k
  induction k with
  | zero => intro i t tr ym fd v h; omega
  | succ k ih =>
    intro i t tr ym fd v hk hi hV hv
    rw [LX2_get_46, LX3_get_50]
    by_cases c : b ≤ i
    · have c' : p0 ≤ nI i := by rw [hb]; exact nI_le c (by omega)
      rw [if_pos c', if_pos c']
      have : fd = v := by
        by_cases d : lf = 0
        · obtain ⟨V, v1, v2, v3⟩ := hv.2 d
          rw [v2, v3, show b - i = 0 by omega, Nat.pow_zero, Nat.mul_one]
        · exact hv.1 d
      rw [this, hbd]
      exact ⟨v, tr, ym, bd, ym, rfl, rfl, Or.inr ⟨rfl, t, hV⟩⟩
    · have c' : ¬ p0 ≤ nI i := by rw [hb, nI_leI (by omega) (by omega)]; exact c
      rw [if_neg c', if_neg c']
      obtain ⟨a1, a2, a3⟩ := r_bit (wr := wr) (tw := tw) (bad := bad) (th := th) (bm := bm) (qm := qm) (bd := bd) h0 h16 hao hs hK hV
      dsimp only
      rw [← a1]
      generalize hr : (FX2_readBit st lf ao sib wr tw cr tr bad).1 = r at a1 a3 ⊢
      by_cases d : 0 ≤ r
      · have d' : 0 ≤ r.toInt := by rw [leI, i0] at d; exact d
        obtain ⟨hrB, t', hV'⟩ := a3 d'
        rw [if_pos d, if_pos d, nI_1]
        have hsh : FX2_shiftOf st lf ao sib wr tw cr (FX2_readBit st lf ao sib wr tw cr tr bad).2 bad (nI i) p0 = fsh lf (nI b) (nI i) := by rw [hb]; rfl
        rw [hsh]
        have hm : (if lf = 0 then LX3_get_50 st lf k th bm km qm bd (FX3_tryBit st lf th bm km qm bd ym).2 p0 ((2 * v) + r.toInt64) (nI (i + 1)) else LX3_get_50 st lf k th bm km qm bd (FX3_tryBit st lf th bm km qm bd ym).2 p0 (v ||| (r.toInt64 <<< ((nI i).toInt64 &&& 63))) (nI (i + 1))) = LX3_get_50 st lf k th bm km qm bd (FX3_tryBit st lf th bm km qm bd ym).2 p0 (if lf = 0 then (2 * v) + r.toInt64 else v ||| (r.toInt64 <<< ((nI i).toInt64 &&& 63))) (nI (i + 1)) := by
          split <;> rfl
        rw [hm]
        exact ih (i + 1) t' _ _ _ _ (by omega) (by omega) hV' (v_step hb2 (by omega) hrB hv)
      · rw [if_neg d, if_neg d]
        have hg : FX1_goBack st sib lf (FX2_readBit st lf ao sib wr tw cr tr bad).2 cr tr0.1 tr0.2.1 tr0.2.2.1 = tr0 := by
          unfold FX1_goBack; rw [a2, ← h3]
        rw [hg]
        by_cases e : r = -3
        · rw [if_pos e, if_pos e]
          exact ⟨_, _, _, _, _, rfl, rfl, Or.inl ⟨rfl, rfl, Or.inr rfl⟩⟩
        · rw [if_neg e, if_neg e]
          exact ⟨_, _, _, _, _, rfl, rfl, Or.inl ⟨rfl, rfl, Or.inl rfl⟩⟩
theorem sim_get {st lf ao sib : Int32} {wr : Rw} {tw : Tk} {cr : Rw} {tr : Tk} {bad th : Int32} {bm : Bm} {km : Rw} {qm : Tk} {bd : Int32} {ym : Tk} {ov : Nat → Int64} {p0 : Int32} {r1 : Int32} {r2 : Int64} {tr' : Tk} {bad' : Int32} {ov' : Nat → Int64} {th' : Int32} {qm' : Tk} {bd' : Int32} {ym' : Tk} (hI : Inv st lf ao sib wr tw cr tr bad th bm km qm bd ym) (e1 : (r1, tr', bad', ov') = FL_get st lf ao sib wr tw cr tr bad ov p0) (e2 : (r2, th', qm', bd', ym') = FX3_get st lf th bm km qm bd ym p0) : th' = r1 ∧ (r1 = 0 → ov' (0 : Int32).toNatClampNeg = r2) ∧ Inv st lf ao sib wr tw cr tr' bad' th' bm km qm' bd' ym' := by
  obtain ⟨hC, hw, hK, hR, hB1, hB2⟩ := id hI
  obtain ⟨c1, c2, c3, c4, c5, c6⟩ := id hC
  obtain ⟨n, t, me, hKq, hV⟩ := invR_to hK hR
  unfold FL_get FX2_get at e1
  unfold FX3_get LX3_get_18 FX3_beginTry at e2
  rw [q_wid] at e1
  rw [q_in32] at e2
  dsimp only at e2
  by_cases a : 1 ≤ p0.toInt ∧ p0.toInt ≤ 32
  · rw [if_pos a] at e1 e2
    rw [if_neg z10, if_pos (by decide)] at e2
    simp only [xbind] at e1
    by_cases d : bad = 0
    · rw [if_pos d] at e1
      rw [← hB1, if_pos d] at e2
      obtain ⟨b, hb0, hb, hb3⟩ := tiN (x := p0) (by omega)
      have hfz : fz 0 p0 = b + 1 := by rw [hb]; exact fz_n (by omega)
      rw [hfz] at e1 e2
      obtain ⟨r, trN, qmN, bdN, ymN, q1, q2, q3⟩ := get_loop (wr := wr) (tw := tw) (bad := bad) (th := 0) (bm := bm) (qm := qm) (bd := bad) (p0 := p0) (tr0 := tr) c1 c2 c5 c6 hKq rfl hb (by omega) hV.1.2.2.1 (b + 1) 0 t tr qm 0 0 (by omega) (by omega) hV ⟨fun _ => rfl, fun _ => ⟨0, by decide, rfl, by rw [Nat.zero_mul]; rfl⟩⟩
      have q1' : LX2_get_46 st lf ao sib (b + 1) wr tw cr tr bad p0 tr.1 tr.2.1 tr.2.2.1 0 0 = Sum.inr (r, trN, bdN) := q1
      have q2' : LX3_get_50 st lf (b + 1) 0 bm km qm bad qm p0 0 0 = (r, 0, qmN, bdN, ymN) := q2
      rw [q1'] at e1
      rw [q2'] at e2
      simp only [xcase, Prod.mk.injEq] at e1 e2
      obtain ⟨rfl, rfl, rfl, rfl⟩ := e1
      obtain ⟨rfl, rfl, rfl, rfl, rfl⟩ := e2
      refine ⟨rfl, fun _ => pk_uLs, hC, hw, hK, ?_, rfl, ?_⟩
      · rcases q3 with ⟨g1, g2, g3⟩ | ⟨g1, t', g2⟩
        · rw [g1, g2]; exact hR
        · exact invR_of hKq g2
      · rcases q3 with ⟨g1, g2, g3⟩ | ⟨g1, t', g2⟩
        · exact g3
        · rw [g1]; exact hB2
    · rw [if_neg d] at e1
      rw [← hB1, if_neg d] at e2
      simp only [xcase, Prod.mk.injEq] at e1 e2
      obtain ⟨rfl, rfl, rfl, rfl⟩ := e1
      obtain ⟨rfl, rfl, rfl, rfl, rfl⟩ := e2
      exact ⟨rfl, fun _ => pk_uLs, hC, hw, hK, hR, rfl, hB2⟩
  · rw [if_neg a] at e1 e2
    rw [if_pos rfl, if_neg (by decide)] at e2
    simp only [xbind, xcase, Prod.mk.injEq] at e1 e2
    obtain ⟨rfl, rfl, rfl, rfl⟩ := e1
    obtain ⟨rfl, rfl, rfl, rfl, rfl⟩ := e2
    exact ⟨rfl, fun q => absurd q (by decide), hC, hw, hK, hR, hB1, hB2⟩
