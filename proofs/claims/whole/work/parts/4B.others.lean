/-! THE OTHER CALLS -/
theorem q_cntM {w : Nat} (hw : w ≤ 4800) : (nI w + 7) / 8 = nI ((w + 7) / 8) := by
  rw [show (7 : Int32) = nI 7 from rfl, nI_add, q_dv8 (by omega)]
theorem sim_byteAt {st lf ao sib : Int32} {wr : Rw} {tw : Tk} {cr : Rw} {tr : Tk} {bad th : Int32} {bm : Bm} {km : Rw} {qm : Tk} {bd : Int32} {ym : Tk} {ov : Nat → Int64} {p0 : Int32} {r1 : Int32} {r2 : Int32} {ov' : Nat → Int64} {th' : Int32} (hI : Inv st lf ao sib wr tw cr tr bad th bm km qm bd ym) (e1 : (r1, ov') = FL_byteAt st lf ao sib wr tw cr tr bad ov p0) (e2 : (r2, th') = FX3_byteAt st lf th bm km qm bd ym p0) : th' = r1 ∧ (r1 = 0 → ov' (0 : Int32).toNatClampNeg = r2.toInt64) ∧ Inv st lf ao sib wr tw cr tr bad th' bm km qm bd ym := by
  obtain ⟨hC, hw, hK, hR, hB⟩ := id hI
  obtain ⟨w, me, h1, hW⟩ := invW_to hw
  unfold FL_byteAt FX2_byteAt at e1
  unfold FX3_byteAt FX3_bytesWritten LX3_byteAt_22 at e2
  dsimp only at e1 e2
  rw [hW.1.2.1] at e1
  rw [hW.1.1, q_cntM h1, q_isIn, Int32.toInt_toInt64, Int32.toInt_toInt64, show (0 : Int64).toInt = 0 from rfl, subI (n := (((w + 7) / 8 : Nat) : Int) - 1) (by rw [nI_toInt (by omega), j1]) (by omega) (by omega)] at e2
  have hneg : p0 < 0 ↔ p0.toInt < 0 := by rw [ltI, i0]
  have hlt : p0 < nI ((w + 7) / 8) ↔ p0.toInt < (((w + 7) / 8 : Nat) : Int) := by rw [ltI, nI_toInt (by omega)]
  by_cases a : 0 ≤ p0.toInt ∧ p0.toInt ≤ (((w + 7) / 8 : Nat) : Int) - 1
  · rw [if_neg (by rw [hneg]; omega), if_pos (by rw [hlt]; omega)] at e1
    rw [if_pos a, if_neg z10, if_pos (by decide)] at e2
    obtain ⟨j, hj0, hj, hj3⟩ := tiN (x := p0) (by omega)
    rw [hj, q_byteOf (by omega), hW.1.2.2.1 _ (by omega)] at e1
    rw [hj, byte_eq hW.1.1 (by omega) (by omega)] at e2
    simp only [xcase, Prod.mk.injEq] at e1 e2
    obtain ⟨rfl, rfl⟩ := e1
    obtain ⟨rfl, rfl⟩ := e2
    exact ⟨rfl, fun _ => pk_uLs, hC, hw, hK, hR, hB⟩
  · rw [if_neg a, if_pos rfl, if_neg (by decide)] at e2
    have hx : (if p0 < 0 then (Sum.inl "java/lang/IndexOutOfBoundsException" : String ⊕ Int32) else if p0 < nI ((w + 7) / 8) then Sum.inr (FX0_byteOf lf wr p0) else Sum.inl "java/lang/IndexOutOfBoundsException") = Sum.inl "java/lang/IndexOutOfBoundsException" := by
      by_cases c : p0 < 0
      · rw [if_pos c]
      · rw [if_neg c, if_neg (by rw [hlt]; rw [hneg] at c; omega)]
    rw [hx] at e1
    simp only [xcase, Prod.mk.injEq] at e1 e2
    obtain ⟨rfl, rfl⟩ := e1
    obtain ⟨rfl, rfl⟩ := e2
    exact ⟨rfl, fun q => absurd q (by decide), hC, hw, hK, hR, hB⟩
theorem kq_add {cr km : Rw} {b : Int32} {n : Nat} (hK : Kq cr km n) (hn : n < 600) (h0 : 0 ≤ b.toInt) (h1 : b.toInt ≤ 255) : Kq (upd cr.1 n b, nI (n + 1)) (upd km.1 n b, nI (n + 1)) (n + 1) := by
  refine ⟨by omega, rfl, rfl, fun j hj => ?_⟩
  show upd cr.1 n b j = upd km.1 n b j ∧ 0 ≤ (upd cr.1 n b j).toInt ∧ (upd cr.1 n b j).toInt ≤ 255
  by_cases c : j = n
  · rw [c, pk_us, pk_us]; exact ⟨rfl, h0, h1⟩
  · rw [pk_un c, pk_un c]; exact hK.2.2.2 j (by omega)
theorem rv_add {st lf : Int32} {cr : Rw} {tr ym : Tk} {b x : Int32} {n t me : Nat} (hV : Rv st lf cr tr ym n t me) : Rv st lf (upd cr.1 n b, x) tr ym (n + 1) t me := by
  obtain ⟨⟨⟨m1, m2, m3, m4, m5⟩, h1, h2, h3, h4⟩, hV2⟩ := hV
  refine ⟨⟨⟨by omega, m2, m3, m4, fun q => ?_⟩, h1, h2, h3, h4⟩, hV2⟩
  obtain ⟨p1, p2, p3⟩ := m5 q
  refine ⟨?_, fun a => ?_, fun a c => ?_⟩
  · rw [p1]; unfold full
    show _ ↔ 0 < t / 8 ∧ ¬ t / 8 = me ∧ upd cr.1 n b (t / 8 - 1) = 255
    by_cases d : 0 < t / 8
    · rw [pk_un (by omega)]
    · exact ⟨fun z => absurd z.1 d, fun z => absurd z.1 d⟩
  · have := p2 a
    refine ⟨by omega, ?_⟩
    show (upd cr.1 n b (t / 8)).toInt < 128
    rw [pk_un (by omega)]; exact this.2
  · have c : upd cr.1 n b (t / 8) = 255 := c
    rw [pk_un (by omega)] at c
    have := p3 a c
    refine ⟨by omega, ?_⟩
    show (upd cr.1 n b (t / 8 + 1)).toInt < 128
    rw [pk_un (by omega)]; exact this.2
theorem sim_feed {st lf ao sib : Int32} {wr : Rw} {tw : Tk} {cr : Rw} {tr : Tk} {bad th : Int32} {bm : Bm} {km : Rw} {qm : Tk} {bd : Int32} {ym : Tk} {ov : Nat → Int64} {p0 : Int32} {r1 : Int32} {r2 : Int32} {cr' : Rw} {ov' : Nat → Int64} {th' : Int32} {km' : Rw} (hI : Inv st lf ao sib wr tw cr tr bad th bm km qm bd ym) (e1 : (r1, cr', ov') = FL_feed st lf ao sib wr tw cr tr bad ov p0) (e2 : (r2, th', km') = FX3_feed st lf th bm km qm bd ym p0) : th' = r1 ∧ (r1 = 0 → ov' (0 : Int32).toNatClampNeg = r2.toInt64) ∧ Inv st lf ao sib wr tw cr' tr bad th' bm km' qm bd ym := by
  obtain ⟨hC, hw, hK, hR, hB⟩ := id hI
  obtain ⟨n, t, me, hKq, hV⟩ := invR_to hK hR
  have h600 := hKq.1
  unfold FL_feed FX2_feed at e1
  unfold FX3_feed LX3_feed_32 at e2
  dsimp only at e2
  rw [q_isIn, Int32.toInt_toInt64, show (0 : Int64).toInt = 0 from rfl, show (255 : Int64).toInt = 255 from rfl] at e2
  have hneg : p0 < 0 ↔ p0.toInt < 0 := by rw [ltI, i0]
  have hle : p0 ≤ 255 ↔ p0.toInt ≤ 255 := by rw [leI, show (255 : Int32).toInt = 255 from rfl]
  by_cases a : 0 ≤ p0.toInt ∧ p0.toInt ≤ 255
  · rw [if_neg (by rw [hneg]; omega), if_pos (by rw [hle]; omega)] at e1
    rw [if_pos a, if_neg z10] at e2
    unfold FX2_refuseMoreBytes at e1
    rw [hKq.2.1, nI_1] at e1
    rw [hKq.2.2.1] at e2
    by_cases c : n = 600
    · rw [if_neg (by rw [q_le (x := 600) 600 (by omega) (by decide) rfl]; omega)] at e1
      have c2 : nI n = 600 := by rw [c]; rfl
      rw [if_pos c2, if_neg (by decide)] at e2
      simp only [xbind, xcase] at e1
      rw [if_neg (by decide)] at e1
      simp only [Prod.mk.injEq] at e1 e2
      obtain ⟨rfl, rfl, rfl⟩ := e1
      obtain ⟨rfl, rfl, rfl⟩ := e2
      exact ⟨rfl, fun q => absurd q (by decide), hC, hw, hK, hR, hB⟩
    · rw [if_pos (by rw [q_le (x := 600) 600 (by omega) (by decide) rfl]; omega)] at e1
      have c2 : ¬ nI n = 600 := fun q => c ((nI_eq (b := 600) (by omega) (by decide)).mp q)
      rw [if_neg c2, if_pos (by decide), nI_clamp (by omega), nI_1] at e2
      simp only [xbind, xcase] at e1
      rw [q_addByte hKq.2.1 (by omega)] at e1
      simp only [Prod.mk.injEq] at e1 e2
      obtain ⟨rfl, rfl, rfl⟩ := e1
      obtain ⟨rfl, rfl, rfl⟩ := e2
      have hk := kq_add (b := p0) hKq (by omega) a.1 a.2
      exact ⟨rfl, fun _ => pk_uLs, hC, hw, invK_of hk, invR_of hk (rv_add hV), hB⟩
  · rw [if_neg a, if_pos rfl, if_neg (by decide)] at e2
    have hx : (if p0 < 0 then (Sum.inl "java/lang/IllegalArgumentException" : String ⊕ (Int32 × Rw)) else if p0 ≤ 255 then xbind (FX2_refuseMoreBytes st lf ao sib wr tw cr tr bad 1) (fun zhw_1 => let u_5 := FX0_addByte lf cr p0; Sum.inr (u_5.2, u_5)) else Sum.inl "java/lang/IllegalArgumentException") = Sum.inl "java/lang/IllegalArgumentException" := by
      by_cases c : p0 < 0
      · rw [if_pos c]
      · rw [if_neg c, if_neg (by rw [hle]; rw [hneg] at c; omega)]
    rw [hx] at e1
    simp only [xcase, if_true] at e1
    simp only [Prod.mk.injEq] at e1 e2
    obtain ⟨rfl, rfl, rfl⟩ := e1
    obtain ⟨rfl, rfl, rfl⟩ := e2
    exact ⟨rfl, fun q => absurd q (by decide), hC, hw, hK, hR, hB⟩
theorem pass_loop {st lf ao sib th : Int32} {wr : Rw} {tw : Tk} {tr : Tk} {bad : Int32} {bm : Bm} {qm : Tk} {bd : Int32} {ym : Tk} {p0 p1 wh mn : Int32} {a b w me : Nat} (hl : isB lf) (hRr : Rr lf wr bm w) (hw : w ≤ 4800) (ha : p0 = nI a) (hb : mn = nI b) (hab : a + b ≤ w / 8) :
    ∀ (k i n t : Nat) (cr km : Rw), b - i < k → i ≤ b → n + (b - i) ≤ 600 → Kq cr km n → Rv st lf cr tr qm n t me →
    ∃ cr' km' n', LX2_pass_61 st lf ao sib k wr tw cr tr bad p0 p1 wh mn (nI i) = Sum.inr (mn, cr') ∧ LX3_pass_83 st lf k th bm km qm bd ym p0 p1 wh mn (nI i) = (mn, th, km') ∧ Kq cr' km' n' ∧ Rv st lf cr' tr qm n' t me := by
  intro k
  induction k with
  | zero => intro i n t cr km h; omega
  | succ k ih =>
    intro i n t cr km hk hi hn hK hV
    rw [LX2_pass_61, LX3_pass_83]
    by_cases c : b ≤ i
    · have c' : mn ≤ nI i := by rw [hb]; exact nI_le c (by omega)
      rw [if_pos c', if_pos c']
      exact ⟨cr, km, n, rfl, rfl, hK, hV⟩
    · have c' : ¬ mn ≤ nI i := by rw [hb, nI_leI (by omega) (by omega)]; exact c
      rw [if_neg c', if_neg c']
      dsimp only
      rw [ha, nI_add, nI_1, byte_eq hRr.1 (by omega) (by omega), q_byteOf (by omega), hRr.2.2.1 _ (by omega), q_addByte hK.2.1 (by omega), hK.2.2.1, nI_clamp (by omega), nI_1, ← ha]
      have hr := bo_rng hl (bgot bm.1 w (a + i))
      exact ih (i + 1) (n + 1) t _ _ (by omega) (by omega) (by omega) (kq_add hK (by omega) hr.1 hr.2) (rv_add hV)
theorem sim_pass {st lf ao sib : Int32} {wr : Rw} {tw : Tk} {cr : Rw} {tr : Tk} {bad th : Int32} {bm : Bm} {km : Rw} {qm : Tk} {bd : Int32} {ym : Tk} {ov : Nat → Int64} {p0 p1 : Int32} {r1 : Int32} {r2 : Int32} {cr' : Rw} {ov' : Nat → Int64} {th' : Int32} {km' : Rw} (hI : Inv st lf ao sib wr tw cr tr bad th bm km qm bd ym) (e1 : (r1, cr', ov') = FL_pass st lf ao sib wr tw cr tr bad ov p0 p1) (e2 : (r2, th', km') = FX3_pass st lf th bm km qm bd ym p0 p1) : th' = r1 ∧ (r1 = 0 → ov' (0 : Int32).toNatClampNeg = r2.toInt64) ∧ Inv st lf ao sib wr tw cr' tr bad th' bm km' qm bd ym := by
  obtain ⟨hC, hw, hK, hR, hB⟩ := id hI
  obtain ⟨c1, c2, c3, c4, c5, c6⟩ := id hC
  obtain ⟨w, me, h1, hW⟩ := invW_to hw
  obtain ⟨n, t, me2, hKq, hV⟩ := invR_to hK hR
  have h600 := hKq.1
  -- the reference's many
  obtain ⟨mn, hmn, e2⟩ : ∃ mn : Int32, mn = (if nI (w / 8) - p0 ≤ p1 then nI (w / 8) - p0 else p1) ∧ (r2, th', km') = (if FX3_isIn p0.toInt64 0 ((nI (w / 8) - 1).toInt64) = 0 then LX3_pass_68 st lf th bm km qm bd ym p0 p1 (nI (w / 8)) mn 1 else if 0 ≤ p1 then (if km.2 + mn ≤ 600 then LX3_pass_68 st lf th bm km qm bd ym p0 p1 (nI (w / 8)) mn 0 else LX3_pass_68 st lf th bm km qm bd ym p0 p1 (nI (w / 8)) mn 3) else LX3_pass_68 st lf th bm km qm bd ym p0 p1 (nI (w / 8)) mn 2) := by
    unfold FX3_pass at e2
    dsimp only at e2
    rw [hW.1.1, q_dv8 (by omega)] at e2
    by_cases a : nI (w / 8) - p0 ≤ p1
    · rw [if_pos a] at e2
      exact ⟨_, (if_pos a).symm, e2⟩
    · rw [if_neg a] at e2
      exact ⟨_, (if_neg a).symm, e2⟩
  unfold FL_pass FX2_pass at e1
  dsimp only at e1
  rw [hW.2.2.1, q_sh3 (by omega)] at e1
  rw [q_isIn, Int32.toInt_toInt64, Int32.toInt_toInt64, show (0 : Int64).toInt = 0 from rfl, subI (n := ((w / 8 : Nat) : Int) - 1) (by rw [nI_toInt (by omega), j1]) (by omega) (by omega)] at e2
  unfold LX3_pass_68 at e2
  have hneg : p0 < 0 ↔ p0.toInt < 0 := by rw [ltI, i0]
  have hlt : p0 < nI (w / 8) ↔ p0.toInt < ((w / 8 : Nat) : Int) := by rw [ltI, nI_toInt (by omega)]
  by_cases a : 0 ≤ p0.toInt ∧ p0.toInt ≤ ((w / 8 : Nat) : Int) - 1
  · rw [if_neg (by rw [hneg]; omega), if_pos (by rw [hlt]; omega)] at e1
    rw [if_pos a, if_neg z10] at e2
    obtain ⟨x, hx0, hx, hx3⟩ := tiN (x := p0) (by omega)
    by_cases b : 0 ≤ p1
    · rw [if_pos b] at e1 e2
      have b' : 0 ≤ p1.toInt := by rw [leI, i0] at b; exact b
      obtain ⟨y, hy0, hy, hy3⟩ := tiN (x := p1) b'
      have hsub : nI (w / 8) - p0 = nI (w / 8 - x) := by rw [hx, pk_sub (by omega)]
      obtain ⟨z, hz, hz1, hz2⟩ : ∃ z : Nat, mn = nI z ∧ x + z ≤ w / 8 ∧ (if nI (w / 8) - p0 < p1 then nI (w / 8) - p0 else p1) = nI z := by
        rw [hsub, hy] at hmn
        rw [hsub, hy]
        by_cases g : w / 8 - x ≤ y
        · rw [if_pos (nI_le g (by omega))] at hmn
          refine ⟨w / 8 - x, hmn, by omega, ?_⟩
          by_cases f : w / 8 - x < y
          · rw [if_pos (nI_lt f (by omega))]
          · rw [if_neg (by rw [nI_ltI (by omega) (by omega)]; exact f)]; congr 1; omega
        · rw [if_neg (by rw [nI_leI (by omega) (by omega)]; exact g)] at hmn
          exact ⟨y, hmn, by omega, if_neg (by rw [nI_ltI (by omega) (by omega)]; omega)⟩
      rw [hz2] at e1
      unfold FX2_refuseMoreBytes at e1
      rw [hKq.2.1, nI_add] at e1
      rw [hKq.2.2.1, hz, nI_add] at e2
      by_cases f : n + z ≤ 600
      · rw [if_pos (by rw [q_le (x := 600) 600 (by omega) (by decide) rfl]; exact f)] at e1 e2
        rw [if_pos (by decide), fz_n (by omega)] at e2
        simp only [xbind, xcase] at e1
        rw [fz_n (by omega)] at e1
        obtain ⟨crN, kmN, nN, q1, q2, q3, q4⟩ := pass_loop (st := st) (ao := ao) (sib := sib) (th := 0) (tw := tw) (tr := tr) (bad := bad) (qm := qm) (bd := bd) (ym := ym) (p1 := p1) (wh := nI (w / 8)) (mn := nI z) c3 hW.1 h1 hx rfl hz1 (z + 1) 0 n t cr km (by omega) (by omega) (by omega) hKq hV
        have q1' : LX2_pass_61 st lf ao sib (z + 1) wr tw cr tr bad p0 p1 (nI (w / 8)) (nI z) 0 = Sum.inr (nI z, crN) := q1
        have q2' : LX3_pass_83 st lf (z + 1) 0 bm km qm bd ym p0 p1 (nI (w / 8)) (nI z) 0 = (nI z, 0, kmN) := q2
        rw [q1'] at e1
        rw [q2'] at e2
        simp only [Prod.mk.injEq] at e1 e2
        obtain ⟨rfl, rfl, rfl⟩ := e1
        obtain ⟨rfl, rfl, rfl⟩ := e2
        exact ⟨rfl, fun _ => pk_uLs, hC, hw, invK_of q3, invR_of q3 q4, hB⟩
      · rw [if_neg (by rw [q_le (x := 600) 600 (by omega) (by decide) rfl]; exact f)] at e1 e2
        rw [if_neg (by decide)] at e2
        simp only [xbind, xcase] at e1
        rw [if_neg (by decide), if_neg (by decide)] at e1
        simp only [Prod.mk.injEq] at e1 e2
        obtain ⟨rfl, rfl, rfl⟩ := e1
        obtain ⟨rfl, rfl, rfl⟩ := e2
        exact ⟨rfl, fun q => absurd q (by decide), hC, hw, hK, hR, hB⟩
    · rw [if_neg b] at e1 e2
      rw [if_neg (by decide)] at e2
      simp only [xcase] at e1
      rw [if_neg (by decide), if_pos trivial] at e1
      simp only [Prod.mk.injEq] at e1 e2
      obtain ⟨rfl, rfl, rfl⟩ := e1
      obtain ⟨rfl, rfl, rfl⟩ := e2
      exact ⟨rfl, fun q => absurd q (by decide), hC, hw, hK, hR, hB⟩
  · rw [if_neg a, if_pos rfl, if_neg (by decide)] at e2
    by_cases c : p0 < 0
    · rw [if_pos c] at e1
      simp only [xcase, if_true] at e1
      simp only [Prod.mk.injEq] at e1 e2
      obtain ⟨rfl, rfl, rfl⟩ := e1
      obtain ⟨rfl, rfl, rfl⟩ := e2
      exact ⟨rfl, fun q => absurd q (by decide), hC, hw, hK, hR, hB⟩
    · rw [if_neg c, if_neg (by rw [hlt]; rw [hneg] at c; omega)] at e1
      simp only [xcase, if_true] at e1
      simp only [Prod.mk.injEq] at e1 e2
      obtain ⟨rfl, rfl, rfl⟩ := e1
      obtain ⟨rfl, rfl, rfl⟩ := e2
      exact ⟨rfl, fun q => absurd q (by decide), hC, hw, hK, hR, hB⟩
theorem mark_eq {st lf th : Int32} {cr : Rw} {bm : Bm} {km : Rw} {qm : Tk} {bd : Int32} {ym : Tk} {n j : Nat} (hK : Kq cr km n) (hj : j ≤ 700) : FX0_isMarkAt lf cr (nI j) = FX3_isMark st lf th bm km qm bd ym (nI j) ∧ (¬ FX3_isMark st lf th bm km qm bd ym (nI j) = 0 → j + 1 < n) := by
  obtain ⟨k1, k2, k3, k4⟩ := hK
  unfold FX0_isMarkAt FX3_isMark
  dsimp only
  rw [nI_1, k2, k3]
  by_cases c : n ≤ j + 1
  · have c' : nI n ≤ nI (j + 1) := nI_le c (by omega)
    rw [if_pos c', if_pos c']; exact ⟨rfl, fun q => absurd rfl q⟩
  · have c' : ¬ nI n ≤ nI (j + 1) := by rw [nI_leI (by omega) (by omega)]; exact c
    rw [if_neg c', if_neg c', q_byteOf (by omega), q_byteOf (by omega), nI_clamp (by omega), nI_clamp (by omega), (k4 j (by omega)).1, (k4 (j + 1) (by omega)).1]
    refine ⟨?_, fun _ => by omega⟩
    by_cases d : km.1 j = 255
    · rw [if_pos d, if_pos d]
      have e : km.1 (j + 1) < 128 ↔ km.1 (j + 1) ≤ 127 := by rw [ltI, leI, show (128 : Int32).toInt = 128 from rfl, show (127 : Int32).toInt = 127 from rfl]; omega
      by_cases f : km.1 (j + 1) ≤ 127
      · rw [if_pos (e.mpr f), if_pos f]
      · rw [if_neg (fun q => f (e.mp q)), if_neg f]
    · rw [if_neg d, if_neg d]
theorem sim_take {st lf ao sib : Int32} {wr : Rw} {tw : Tk} {cr : Rw} {tr : Tk} {bad th : Int32} {bm : Bm} {km : Rw} {qm : Tk} {bd : Int32} {ym : Tk}   {r1 : Int32} {r2 : Int32} {tr' : Tk} {th' : Int32} {qm' : Tk} (hI : Inv st lf ao sib wr tw cr tr bad th bm km qm bd ym) (e1 : (r1, tr') = FX2_take st lf ao sib wr tw cr tr bad) (e2 : (r2, th', qm') = FX3_take st lf th bm km qm bd ym) : r1 = r2 ∧ Inv st lf ao sib wr tw cr tr' bad th' bm km qm' bd ym := by
  obtain ⟨hC, hw, hK, hR, hB1, hB2⟩ := id hI
  obtain ⟨n, t, me, hKq, hV⟩ := invR_to hK hR
  obtain ⟨⟨⟨m1, m2, m3, m4, m5⟩, h1, h2, h3, h4⟩, hV2⟩ := id hV
  have h600 := hKq.1
  have hsame : ∀ {a b : Int32} {x y : Tk} {z : Int32}, (r1, tr') = (a, tr) → (r2, th', qm') = (b, z, qm) → a = b → r1 = r2 ∧ Inv st lf ao sib wr tw cr tr' bad th' bm km qm' bd ym := by
    intro a b x y z g1 g2 g3
    simp only [Prod.mk.injEq] at g1 g2
    obtain ⟨rfl, rfl⟩ := g1
    obtain ⟨rfl, rfl, rfl⟩ := g2
    exact ⟨g3, hC, hw, hK, hR, hB1, hB2⟩
  unfold FX2_take FX1_isAtByte at e1
  unfold FX3_take at e2
  dsimp only at e1 e2
  rw [h1, q_sh3 (by omega), q_an7 (by omega)] at e1
  rw [m3, q_rm8 (by omega), q_dv8 (by omega)] at e2
  by_cases a : st = 1
  · rw [if_pos a] at e2
    rw [if_pos a] at e1
    by_cases b : bad = 0
    · rw [if_pos b] at e1
      rw [← hB1, if_pos b] at e2
      by_cases c : nI (t % 8) = 0
      · have c' := (q_z (by omega)).mp c
        rw [if_pos c, if_neg z10] at e1
        rw [if_pos c] at e2
        obtain ⟨g1, g2⟩ := mark_eq (st := st) (lf := lf) (th := 0) (bm := bm) (qm := qm) (bd := bad) (ym := ym) (j := t / 8) hKq (by omega)
        rw [g1] at e1
        by_cases d : FX3_isMark st lf 0 bm km qm bad ym (nI (t / 8)) = 0
        · rw [if_pos d] at e1 e2
          exact hsame (x := tr) (y := tr) e1 e2 rfl
        · have hlt := g2 d
          rw [if_neg d] at e1 e2
          unfold FX1_stepOverMark at e1
          dsimp only at e1
          rw [nI_1, q_byteOf (by omega), h1, show (16 : Int32) = nI 16 from rfl, nI_add, q_sh3 (by omega)] at e1
          rw [nI_1, nI_clamp (by omega), show (16 : Int32) = nI 16 from rfl, nI_add] at e2
          simp only [Prod.mk.injEq] at e1 e2
          obtain ⟨rfl, rfl⟩ := e1
          obtain ⟨rfl, rfl, rfl⟩ := e2
          refine ⟨(hKq.2.2.2 _ hlt).1, hC, hw, hK, invR_of (t := t + 16) (me := (t + 16) / 8) hKq ⟨⟨⟨by omega, by omega, rfl, Or.inl rfl, fun _ => ⟨⟨fun q => absurd rfl q, fun q => absurd rfl q.2.1⟩, fun q => absurd rfl q, fun q => by omega⟩⟩, rfl, rfl, h3, h4⟩, fun _ _ q => q.2 rfl⟩, hB1, hB2⟩
      · rw [if_neg c, if_pos rfl] at e1
        rw [if_neg c] at e2
        exact hsame (x := tr) (y := tr) e1 e2 rfl
    · rw [if_neg b] at e1
      rw [← hB1, if_neg b] at e2
      exact hsame (x := tr) (y := tr) e1 e2 rfl
  · rw [if_neg a] at e2
    rw [if_neg a] at e1
    have : (if bad = 0 then ((-1 : Int32), tr) else ((-1 : Int32), tr)) = (-1, tr) := by split <;> rfl
    rw [this] at e1
    exact hsame (x := tr) (y := tr) e1 e2 rfl
theorem find_loop {st lf ao sib : Int32} {wr : Rw} {tw : Tk} {cr : Rw} {tr : Tk} {bad : Int32} {bm : Bm} {km : Rw} {qm : Tk} {bd : Int32} {ym : Tk} {p0 : Int32} {n : Nat} (hK : Kq cr km n) :
    ∀ (k i : Nat), n - i < k → i ≤ n → ∃ r, LX2_find_27 st lf ao sib k wr tw cr tr bad p0 (nI i) = Sum.inr r ∧ LX3_find_25 st lf k 0 bm km qm bd ym p0 (nI i) = (r, 0) := by
  intro k
  induction k with
  | zero => intro i h; omega
  | succ k ih =>
    intro i hk hi
    have h600 := hK.1
    rw [LX2_find_27, LX3_find_25, if_pos rfl, hK.2.1, hK.2.2.1]
    by_cases c : n ≤ i
    · have c' := nI_le c (show i < 2 ^ 31 by omega)
      rw [if_pos c', if_pos c', if_pos (by decide)]
      exact ⟨_, rfl, rfl⟩
    · have c' : ¬ nI n ≤ nI i := by rw [nI_leI (by omega) (by omega)]; exact c
      rw [if_neg c', if_neg c']
      dsimp only
      rw [(mark_eq (st := st) (th := 0) (bm := bm) (qm := qm) (bd := bd) (ym := ym) (j := i) hK (by omega)).1, nI_1]
      by_cases d : FX3_isMark st lf 0 bm km qm bd ym (nI i) = 0
      · rw [if_pos d, if_pos d]
        exact ih (i + 1) (by omega) (by omega)
      · rw [if_neg d, if_neg d]
        exact ⟨_, rfl, rfl⟩
theorem sim_find {st lf ao sib : Int32} {wr : Rw} {tw : Tk} {cr : Rw} {tr : Tk} {bad th : Int32} {bm : Bm} {km : Rw} {qm : Tk} {bd : Int32} {ym : Tk} {ov : Nat → Int64} {p0 : Int32} {r1 : Int32} {r2 : Int32} {ov' : Nat → Int64} {th' : Int32} (hI : Inv st lf ao sib wr tw cr tr bad th bm km qm bd ym) (e1 : (r1, ov') = FL_find st lf ao sib wr tw cr tr bad ov p0) (e2 : (r2, th') = FX3_find st lf th bm km qm bd ym p0) : th' = r1 ∧ (r1 = 0 → ov' (0 : Int32).toNatClampNeg = r2.toInt64) ∧ Inv st lf ao sib wr tw cr tr bad th' bm km qm bd ym := by
  obtain ⟨hC, hw, hK, hR, hB⟩ := id hI
  obtain ⟨n, t, me, hKq, hV⟩ := invR_to hK hR
  have h600 := hKq.1
  unfold FL_find FX2_find at e1
  unfold FX3_find LX3_find_20 at e2
  dsimp only at e2
  rw [q_isIn, Int32.toInt_toInt64, Int32.toInt_toInt64, show (0 : Int64).toInt = 0 from rfl, hKq.2.2.1, nI_toInt (by omega)] at e2
  rw [hKq.2.1] at e1
  have hneg : p0 < 0 ↔ p0.toInt < 0 := by rw [ltI, i0]
  have hle : p0 ≤ nI n ↔ p0.toInt ≤ (n : Int) := by rw [leI, nI_toInt (by omega)]
  by_cases a : 0 ≤ p0.toInt ∧ p0.toInt ≤ (n : Int)
  · rw [if_neg (by rw [hneg]; omega), if_pos (by rw [hle]; omega)] at e1
    rw [if_pos a, if_neg z10] at e2
    obtain ⟨x, hx0, hx, hx3⟩ := tiN (x := p0) (by omega)
    have hfz : n - x < fz p0 (nI n) := by unfold fz; rw [nI_toInt (by omega), hx3]; omega
    obtain ⟨r, q1, q2⟩ := find_loop (st := st) (lf := lf) (ao := ao) (sib := sib) (wr := wr) (tw := tw) (tr := tr) (bad := bad) (bm := bm) (qm := qm) (bd := bd) (ym := ym) (p0 := p0) hKq (fz p0 (nI n)) x hfz (by omega)
    rw [← hx] at q1 q2
    rw [q1] at e1
    rw [q2] at e2
    simp only [xcase, Prod.mk.injEq] at e1 e2
    obtain ⟨rfl, rfl⟩ := e1
    obtain ⟨rfl, rfl⟩ := e2
    exact ⟨rfl, fun _ => pk_uLs, hC, hw, hK, hR, hB⟩
  · rw [if_neg a, if_pos rfl] at e2
    have hf : LX3_find_25 st lf (fz p0 (nI n)) 1 bm km qm bd ym p0 p0 = (0, 1) := by
      unfold fz
      rw [LX3_find_25, if_neg z10, if_neg (by decide)]
    rw [hf] at e2
    have hx : (if p0 < 0 then (Sum.inl "java/lang/IndexOutOfBoundsException" : String ⊕ Int32) else if p0 ≤ nI n then LX2_find_27 st lf ao sib (fz p0 (nI n)) wr tw cr tr bad p0 p0 else Sum.inl "java/lang/IndexOutOfBoundsException") = Sum.inl "java/lang/IndexOutOfBoundsException" := by
      by_cases c : p0 < 0
      · rw [if_pos c]
      · rw [if_neg c, if_neg (by rw [hle]; rw [hneg] at c; omega)]
    rw [hx] at e1
    simp only [xcase, Prod.mk.injEq] at e1 e2
    obtain ⟨rfl, rfl⟩ := e1
    obtain ⟨rfl, rfl⟩ := e2
    exact ⟨rfl, fun q => absurd q (by decide), hC, hw, hK, hR, hB⟩
theorem sim_told {st lf ao sib : Int32} {wr : Rw} {tw : Tk} {cr : Rw} {tr : Tk} {bad th : Int32} {bm : Bm} {km : Rw} {qm : Tk} {bd : Int32} {ym : Tk}  {p0 : Int32} {r1 : Int32} {r2 : Int32} {th' : Int32} (hI : Inv st lf ao sib wr tw cr tr bad th bm km qm bd ym) (e1 : r1 = FX2_told st lf ao sib wr tw cr tr bad p0) (e2 : (r2, th') = FX3_told st lf th bm km qm bd ym p0) : r1 = r2 ∧ Inv st lf ao sib wr tw cr tr bad th' bm km qm bd ym := by
  obtain ⟨hC, hw, hK, hR, hB1, hB2⟩ := id hI
  obtain ⟨w, me, h1, hW⟩ := invW_to hw
  obtain ⟨n, t, me2, hKq, hV⟩ := invR_to hK hR
  have e3 : FX3_told st lf th bm km qm bd ym p0 = (FX2_told st lf ao sib wr tw cr tr bad p0, 0) := by
    unfold FX3_told FX2_told
    rw [hW.2.2.1, hW.1.1, hW.2.2.2.2.1, hKq.2.1, hKq.2.2.1, hV.1.2.1, hV.1.1.2.2.1, hV.1.2.2.2.1, hB1]
    split
    · rfl
    split
    · split <;> rfl
    split
    · rfl
    split
    · rfl
    split
    · rfl
    split
    · rfl
    split
    · rfl
    split
    · split <;> rfl
    · rfl
  rw [e3, ← e1] at e2
  simp only [Prod.mk.injEq] at e2
  exact ⟨e2.1.symm, hC, hw, hK, hR, hB1, hB2⟩
theorem fill_0 : ∀ (k i : Nat) (fa : Nat → Int32), 600 - i < k → i ≤ 600 → ∀ j, j < 600 → (i ≤ j ∨ fa j = 0) → LJ7_fill_5 k fa 0 (nI i) 600 j = 0 := by
  intro k
  induction k with
  | zero => intro i fa h; omega
  | succ k ih =>
    intro i fa hk hi j hj h
    rw [LJ7_fill_5]
    by_cases c : 600 ≤ i
    · rw [if_pos (by rw [q_ge (x := 600) 600 (by omega) (by decide) rfl]; exact c)]
      rcases h with h | h
      · omega
      · exact h
    · rw [if_neg (by rw [q_ge (x := 600) 600 (by omega) (by decide) rfl]; exact c)]
      rw [nI_clamp (by omega), nI_1]
      refine ih (i + 1) _ (by omega) (by omega) j hj ?_
      by_cases d : j = i
      · right; rw [d, pk_us]
      · rw [pk_un d]
        rcases h with h | h
        · left; omega
        · right; exact h
theorem empty_0 {lf : Int32} {rs : Rw} : (FX0_empty lf rs).2 = 0 ∧ ∀ j, j < 600 → (FX0_empty lf rs).1 j = 0 := by
  unfold FX0_empty FJ7_fill
  refine ⟨rfl, fun j hj => ?_⟩
  have h := fill_0 big 0 rs.1 (by rw [big_eq]; omega) (by omega) j hj (Or.inl (by omega))
  rw [nI_0] at h
  exact h
theorem start_inv {st lf ao sib : Int32} {wr : Rw} {cr : Rw} {th : Int32} {f g : Nat → Int32} {ym : Tk} (hC : InvC st lf ao sib) (h1 : wr.2 = 0 ∧ ∀ j, j < 600 → wr.1 j = 0) (h2 : cr.2 = 0) : Inv st lf ao sib wr (0, 0, 0, 0) cr (0, 0, 0, 0) 0 th (f, 0, 0, 0, 0) (g, 0) (0, 0, 0, 0) 0 ym := by
  have hz : 1 < st.toInt → (0 : Int32) = 0 ∧ 0 ≤ (0 : Int32).toInt ∧ (0 : Int32).toInt < st.toInt := fun q => ⟨rfl, by decide, by rw [i0]; omega⟩
  have hfull : ∀ h : Nat → Int32, ¬ full h 0 0 := fun h q => absurd q.1 (by decide)
  refine ⟨hC, ⟨0, 0, by omega, by omega, rfl, rfl, rfl, rfl, h1.1, fun j hj => ?_, Or.inl rfl, hz, fun _ => ⟨⟨fun q => absurd rfl q, fun q => absurd q (hfull _)⟩, fun _ q => absurd q.1 (by decide)⟩⟩, ⟨0, by omega, h2, rfl, fun j hj => absurd hj (by omega)⟩, ⟨0, 0, 0, h2, by omega, by omega, by omega, rfl, rfl, rfl, rfl, Or.inl rfl, hz, fun _ => ⟨⟨fun q => absurd rfl q, fun q => absurd q (hfull _)⟩, fun q => absurd rfl q, fun _ q => absurd q.1 (by decide), fun q => absurd rfl q⟩⟩, rfl, Or.inl rfl⟩
  rw [h1.2 j hj]
  refine (bo_none fun k hk => ?_).symm
  unfold bgot
  rw [decide_eq_false (by omega), Bool.false_and]
theorem sim_clear {st lf ao sib : Int32} {wr : Rw} {tw : Tk} {cr : Rw} {tr : Tk} {bad th : Int32} {bm : Bm} {km : Rw} {qm : Tk} {bd : Int32} {ym : Tk}    {wr' : Rw} {tw' : Tk} {cr' : Rw} {tr' : Tk} {bad' : Int32} {th' : Int32} {bm' : Bm} {km' : Rw} {qm' : Tk} {bd' : Int32} (hI : Inv st lf ao sib wr tw cr tr bad th bm km qm bd ym) (e1 : (wr', tw', cr', tr', bad') = FX2_clear st lf ao sib wr tw cr tr bad) (e2 : (th', bm', km', qm', bd') = FX3_clear st lf th bm km qm bd ym) : True ∧ Inv st lf ao sib wr' tw' cr' tr' bad' th' bm' km' qm' bd' ym := by
  have h1 := empty_0 (lf := lf) (rs := wr)
  have h2 := empty_0 (lf := lf) (rs := cr)
  unfold FX2_clear FX1_goToStart FX1_goBack at e1
  unfold FX3_clear at e2
  dsimp only at e1
  simp only [Prod.mk.injEq] at e1 e2
  obtain ⟨rfl, rfl, rfl, rfl, rfl⟩ := e1
  obtain ⟨rfl, rfl, rfl, rfl, rfl⟩ := e2
  exact ⟨trivial, start_inv hI.1 h1 h2.1⟩
theorem inv_init {p0 p1 q0 q1 st lf ao sib1 sib2 : Int32} {wr : Rw} {tw : Tk} {cr : Rw} {tr : Tk} {bad st' lo th : Int32} {bm : Bm} {km : Rw} {qm : Tk} {bd : Int32} {ym : Tk} (e1 : (st, lf, ao, sib1, sib2, wr, tw, cr, tr, bad) = FX2_init p0 p1) (e2 : (st', lo, th, bm, km, qm, bd, ym) = FX3_init q0 q1) (h0 : q0 = p0) (h1 : q1 = p1) : st' = st ∧ lo = lf ∧ sib2 = sib1 ∧ Inv st lf ao sib1 wr tw cr tr bad th bm km qm bd ym := by
  rw [h0, h1] at e2
  obtain ⟨x, hx, hx0, hx16, hm⟩ : ∃ x : Int32, (if 0 < (if p0 < 16 then p0 else 16) then (if p0 < 16 then p0 else 16) else 0) = x ∧ 0 ≤ x.toInt ∧ x.toInt ≤ 16 ∧ FX3_init p0 p1 = (x, (if p1 = 0 then 0 else 1), 0, (fun _ => 0, 0, 0, 0, 0), (fun _ => 0, 0), (0, 0, 0, 0), 0, (0, 0, 0, 0)) := by
    have i16 : (16 : Int32).toInt = 16 := rfl
    by_cases a : p0.toInt < 0
    · refine ⟨0, ?_, by decide, by decide, ?_⟩
      · have c : p0 < 16 := by rw [ltI, i16]; omega
        have d : ¬ 0 < p0 := by rw [ltI, i0]; omega
        simp only [if_pos c, if_neg d]
      · have c : ¬ 0 ≤ p0 := by rw [leI, i0]; omega
        unfold FX3_init
        rw [if_neg c]
        split <;> rfl
    · by_cases b : p0.toInt ≤ 16
      · refine ⟨p0, ?_, by omega, b, ?_⟩
        · by_cases c : p0 < 16
          · simp only [if_pos c]
            by_cases d : 0 < p0
            · rw [if_pos d]
            · rw [if_neg d]; rw [ltI, i0] at d; rw [eqI, i0]; omega
          · simp only [if_neg c]
            rw [if_pos (show (0 : Int32) < 16 by decide)]; rw [ltI, i16] at c; rw [eqI, i16]; omega
        · have c : 0 ≤ p0 := by rw [leI, i0]; omega
          have d : p0 ≤ 16 := by rw [leI, i16]; omega
          unfold FX3_init
          rw [if_pos c, if_pos d]
          split <;> rfl
      · refine ⟨16, ?_, by decide, by decide, ?_⟩
        · have c : ¬ p0 < 16 := by rw [ltI, i16]; omega
          simp only [if_neg c]
          rw [if_pos (show (0 : Int32) < 16 by decide)]
        · have c : 0 ≤ p0 := by rw [leI, i0]; omega
          have d : ¬ p0 ≤ 16 := by rw [leI, i16]; omega
          unfold FX3_init
          rw [if_pos c, if_neg d]
          split <;> rfl
  rw [hm] at e2
  unfold FX2_init FX1_init FX0_init at e1
  dsimp only at e1
  rw [hx] at e1
  have hrow : (0 : Int32) = 0 ∧ ∀ j, j < 600 → (fun _ : Nat => (0 : Int32)) j = 0 := ⟨rfl, fun _ _ => rfl⟩
  by_cases a : p1 = 0
  · rw [if_pos a] at e1 e2
    by_cases b : x = 1
    · rw [if_pos b, if_pos rfl] at e1
      simp only [Prod.mk.injEq] at e1 e2
      obtain ⟨rfl, rfl, rfl, rfl, rfl, rfl, rfl, rfl, rfl, rfl⟩ := e1
      obtain ⟨rfl, rfl, rfl, rfl, rfl, rfl, rfl, rfl⟩ := e2
      exact ⟨rfl, rfl, rfl, start_inv ⟨hx0, hx16, Or.inl rfl, Or.inl rfl, ⟨fun _ => ⟨rfl, b⟩, fun _ => rfl⟩, (if_pos rfl).symm⟩ hrow rfl⟩
    · rw [if_neg b, if_pos rfl] at e1
      simp only [Prod.mk.injEq] at e1 e2
      obtain ⟨rfl, rfl, rfl, rfl, rfl, rfl, rfl, rfl, rfl, rfl⟩ := e1
      obtain ⟨rfl, rfl, rfl, rfl, rfl, rfl, rfl, rfl⟩ := e2
      exact ⟨rfl, rfl, rfl, start_inv ⟨hx0, hx16, Or.inl rfl, Or.inr rfl, ⟨fun q => absurd q z10, fun q => absurd q.2 b⟩, (if_pos rfl).symm⟩ hrow rfl⟩
  · rw [if_neg a] at e1 e2
    rw [if_neg z10] at e1
    simp only [Prod.mk.injEq] at e1 e2
    obtain ⟨rfl, rfl, rfl, rfl, rfl, rfl, rfl, rfl, rfl, rfl⟩ := e1
    obtain ⟨rfl, rfl, rfl, rfl, rfl, rfl, rfl, rfl⟩ := e2
    exact ⟨rfl, rfl, rfl, start_inv ⟨hx0, hx16, Or.inr rfl, Or.inr rfl, ⟨fun q => absurd q z10, fun q => absurd q.1 z10⟩, (if_neg z10).symm⟩ hrow rfl⟩
