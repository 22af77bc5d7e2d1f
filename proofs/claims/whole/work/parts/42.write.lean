/-! WRITING, bit by bit -/
theorem nar_b {p : Int32} (hp : isB p) : vp_nar .boolean p = p := by rcases hp with rfl | rfl <;> rfl
theorem q_byteOf {lf : Int32} {rs : Rw} {j : Nat} (hj : j < 600) : FX0_byteOf lf rs (nI j) = rs.1 j := by
  unfold FX0_byteOf
  rw [if_neg (nI_pos (by omega)), if_neg (by rw [q_ge (x := 600) 600 (by omega) (by decide) rfl]; omega), nI_clamp (by omega)]
theorem q_shift {lf : Int32} {rs : Rw} {t : Nat} (ht : t < 2 ^ 31) : FX0_shiftInByte lf rs (nI t) = shk lf (t % 8) := by
  unfold FX0_shiftInByte shk; rw [q_an7 ht]
theorem q_bitOf {lf : Int32} {rs : Rw} {t : Nat} (ht : t < 4800) : FX0_bitOf lf rs (nI t) = (rs.1 (t / 8) >>> (shk lf (t % 8) &&& 31)) &&& 1 := by
  unfold FX0_bitOf
  dsimp only
  rw [q_sh3 (by omega), q_byteOf (by omega), q_shift (by omega)]
theorem q_setBit {lf p : Int32} {rs : Rw} {t : Nat} (ht : t < 4800) : FX0_setBit lf rs (nI t) p = (upd rs.1 (t / 8) ((rs.1 (t / 8) &&& (((1 : Int32) <<< (shk lf (t % 8) &&& 31)) ^^^ (-1))) ||| (p <<< (shk lf (t % 8) &&& 31))), if rs.2 < nI (t / 8 + 1) then nI (t / 8 + 1) else rs.2) := by
  unfold FX0_setBit
  dsimp only
  rw [q_sh3 (by omega), q_shift (by omega), nI_clamp (by omega), nI_1]
  rw [if_neg (nI_pos (by omega)), if_pos (by rw [q_lt (x := 600) 600 (by omega) (by decide) rfl]; omega)]
def Rr (lf : Int32) (wr : Rw) (bm : Bm) (w : Nat) : Prop := bm.2.1 = nI w ∧ wr.2 = nI ((w + 7) / 8) ∧ (∀ j, j < 600 → wr.1 j = bo lf (bgot bm.1 w j)) ∧ isB bm.2.2.2.2
def Fa (wr : Rw) (bm : Bm) (w me : Nat) : Prop := (¬ bm.2.2.2.2 = 0 ↔ full wr.1 w me)
theorem q_add {st lo th : Int32} {bm : Bm} {km : Rw} {qm : Tk} {bd : Int32} {ym : Tk} {p : Int32} {w : Nat} (hp : isB p) (hw : bm.2.1 = nI w) (h : w < 5200) :
    FX3_add st lo th bm km qm bd ym p = (upd bm.1 w p, nI (w + 1), bm.2.2.1, bm.2.2.2.1, if (w + 1) % 8 = 0 then (if bo lo (bgot (upd bm.1 w p) (w + 1) ((w + 1) / 8 - 1)) = 255 then 1 else 0) else bm.2.2.2.2) := by
  unfold FX3_add
  dsimp only
  rw [hw, nI_1, q_rm8 (by omega), nI_clamp (by omega), nar_b hp, q_dv8 (by omega)]
  by_cases c : (w + 1) % 8 = 0
  · rw [if_pos (by rw [c]; rfl), if_pos c]
    rw [show (1 : Int32) = nI 1 from rfl, pk_sub (by omega), byte_eq (w := w + 1) rfl (by omega) (by omega)]
    dsimp only
    by_cases d : bo lo (bgot (upd bm.1 w p) (w + 1) ((w + 1) / 8 - 1)) = 255
    · rw [if_pos d, if_pos d]
    · rw [if_neg d, if_neg d]
  · rw [if_neg (by rw [q_z (by omega)]; exact c), if_neg c]
theorem bgot_upd {f : Nat → Int32} {p : Int32} {w j k : Nat} : bgot (upd f w p) (w + 1) j k = if 8 * j + k = w then decide (¬ p = 0) else bgot f w j k := by
  unfold bgot upd
  by_cases c : 8 * j + k = w
  · rw [if_pos c, if_pos c, decide_eq_true (by omega), Bool.true_and]
  · rw [if_neg c, if_neg c]
    by_cases d : 8 * j + k < w
    · rw [decide_eq_true d, decide_eq_true (by omega)]
    · rw [decide_eq_false d, decide_eq_false (by omega)]
theorem add_step {st lf th : Int32} {wr : Rw} {bm : Bm} {km : Rw} {qm : Tk} {bd : Int32} {ym : Tk} {p : Int32} {w : Nat} (hl : isB lf) (hp : isB p) (h : w < 4800) (hR : Rr lf wr bm w) :
    Rr lf (FX0_setBit lf wr (nI w) p) (FX3_add st lf th bm km qm bd ym p) (w + 1) ∧ (∀ me, 8 * me ≤ w → Fa wr bm w me → Fa (FX0_setBit lf wr (nI w) p) (FX3_add st lf th bm km qm bd ym p) (w + 1) me) ∧
    (FX3_add st lf th bm km qm bd ym p).2.2.1 = bm.2.2.1 ∧ (FX3_add st lf th bm km qm bd ym p).2.2.2.1 = bm.2.2.2.1 := by
  obtain ⟨h1, h2, h3, h4⟩ := hR
  rw [q_add hp h1 (by omega), q_setBit h]
  have hby : ∀ j, j < 600 → upd wr.1 (w / 8) ((wr.1 (w / 8) &&& (((1 : Int32) <<< (shk lf (w % 8) &&& 31)) ^^^ (-1))) ||| (p <<< (shk lf (w % 8) &&& 31))) j = bo lf (bgot (upd bm.1 w p) (w + 1) j) := by
    intro j hj
    by_cases c : j = w / 8
    · subst c
      rw [pk_us, h3 _ hj, bo_set hl hp _ (by omega)]
      refine bo_congr fun k hk => ?_
      rw [bgot_upd]; unfold gs
      by_cases d : k = w % 8
      · rw [if_pos d, if_pos (by omega)]
      · rw [if_neg d, if_neg (by omega)]
    · rw [pk_un c, h3 _ hj]
      refine bo_congr fun k hk => ?_
      rw [bgot_upd, if_neg (by omega)]
  refine ⟨⟨rfl, ?_, hby, ?_⟩, ?_, rfl, rfl⟩
  · show (if wr.2 < nI (w / 8 + 1) then nI (w / 8 + 1) else wr.2) = _
    rw [h2]
    by_cases c : (w + 7) / 8 < w / 8 + 1
    · rw [if_pos (nI_lt c (by omega))]; congr 1; omega
    · rw [if_neg (by rw [nI_ltI (by omega) (by omega)]; exact c)]; congr 1; omega
  · show isB (if (w + 1) % 8 = 0 then (if _ = (255 : Int32) then 1 else 0) else bm.2.2.2.2)
    split
    · split
      · exact Or.inr rfl
      · exact Or.inl rfl
    · exact h4
  · intro me hm hF
    unfold Fa full at hF ⊢
    dsimp only
    by_cases c : (w + 1) % 8 = 0
    · rw [if_pos c, ← hby _ (by omega)]
      constructor
      · intro d
        refine ⟨by omega, by omega, ?_⟩
        by_cases e : upd wr.1 (w / 8) ((wr.1 (w / 8) &&& (((1 : Int32) <<< (shk lf (w % 8) &&& 31)) ^^^ (-1))) ||| (p <<< (shk lf (w % 8) &&& 31))) ((w + 1) / 8 - 1) = 255
        · exact e
        · rw [if_neg e] at d; exact absurd rfl d
      · intro ⟨_, _, d⟩
        rw [if_pos d]; decide
    · rw [if_neg c, hF, show (w + 1) / 8 = w / 8 by omega]
      by_cases e : 0 < w / 8
      · rw [pk_un (j := w / 8 - 1) (k := w / 8) (by omega)]
      · exact ⟨fun q => absurd q.1 e, fun q => absurd q.1 e⟩
theorem q_behind {st sib lf : Int32} {ts : Tk} {rs : Rw} {t me : Nat} (h1 : ts.1 = nI t) (h2 : ts.2.2.2 = nI me) (ht : t ≤ 4800) (hm : 8 * me ≤ t) : (¬ FX1_isBehindFullByte st sib lf ts rs = 0) ↔ full rs.1 t me := by
  unfold FX1_isBehindFullByte full
  dsimp only
  rw [h1, h2, q_sh3 (by omega)]
  by_cases c : 0 < t / 8
  · rw [if_neg (nI_nle c (by omega))]
    by_cases d : t / 8 = me
    · rw [if_pos (by rw [d])]; exact ⟨fun q => absurd rfl q, fun q => absurd d q.2.1⟩
    · rw [if_neg (by rw [nI_eq (by omega) (by omega)]; exact d)]
      rw [show (1 : Int32) = nI 1 from rfl, pk_sub (by omega), q_byteOf (by omega)]
      by_cases e : rs.1 (t / 8 - 1) = 255
      · rw [if_pos e]; exact ⟨fun _ => ⟨c, d, e⟩, fun _ => by decide⟩
      · rw [if_neg e]; exact ⟨fun q => absurd rfl q, fun q => absurd q.2.2 e⟩
  · rw [if_pos (by rw [q_le (x := 0) 0 (by omega) (by decide) rfl]; omega)]
    exact ⟨fun q => absurd rfl q, fun q => absurd q.1 c⟩
theorem sib_7 {lf sib : Int32} {t : Nat} (hs : sib = if lf = 0 then 0 else 7) (ht : t ≤ 4800) : nI t &&& 7 = sib ↔ t % 8 = if lf = 0 then 0 else 7 := by
  rw [q_an7 (by omega), hs]
  split
  · exact q_z (by omega)
  · exact q_7 (by omega)
theorem one_st {st : Int32} (h0 : 0 ≤ st.toInt) : st ≤ 1 ↔ (st = 0 ∨ st = 1) := by
  rw [leI, eqI, eqI, j1, i0]; omega
theorem st_cases {st : Int32} (h0 : 0 ≤ st.toInt) : st = 0 ∨ st = 1 ∨ 1 < st.toInt := by
  rw [eqI, eqI, j1, i0]; omega
theorem st_big {st : Int32} (h : 1 < st.toInt) : ¬ st ≤ 1 ∧ ¬ st = 1 ∧ ¬ st = 0 := by
  rw [leI, eqI, eqI, j1, i0]; omega
theorem q_due {st sib lf : Int32} {ts : Tk} {rs : Rw} {t me : Nat} (h0 : 0 ≤ st.toInt) (hs : sib = if lf = 0 then 0 else 7) (h1 : ts.1 = nI t) (h2 : ts.2.2.2 = nI me) (ht : t ≤ 4800) (hm : 8 * me ≤ t) :
    (¬ FX1_isStuffedDue st sib lf ts rs = 0) ↔ ((1 < st.toInt ∧ ts.2.2.1 = st) ∨ (st = 1 ∧ (t % 8 = if lf = 0 then 0 else 7) ∧ full rs.1 t me)) := by
  have hb := q_behind (st := st) (sib := sib) (lf := lf) (rs := rs) h1 h2 ht hm
  unfold FX1_isStuffedDue
  dsimp only
  rcases st_cases h0 with rfl | rfl | hb2
  · rw [if_pos (by decide), if_neg (by decide)]
    refine ⟨fun q => absurd rfl q, fun q => ?_⟩
    rcases q with q | q
    · exact absurd q.1 (by decide)
    · exact absurd q.1 (by decide)
  · rw [if_pos (by decide), if_pos rfl, h1]
    by_cases c : nI t &&& 7 = sib
    · rw [if_pos c]
      have c2 := (sib_7 hs ht).mp c
      by_cases d : FX1_isBehindFullByte 1 sib lf ts rs = 0
      · rw [if_pos d]
        refine ⟨fun q => absurd rfl q, fun q => ?_⟩
        rcases q with q | q
        · exact absurd q.1 (by decide)
        · exact absurd d (hb.mpr q.2.2)
      · rw [if_neg d]
        exact ⟨fun _ => Or.inr ⟨rfl, c2, hb.mp d⟩, fun _ => by decide⟩
    · rw [if_neg c]
      refine ⟨fun q => absurd rfl q, fun q => ?_⟩
      rcases q with q | q
      · exact absurd q.1 (by decide)
      · exact absurd ((sib_7 hs ht).mpr q.2.1) c
  · have hq := st_big hb2
    rw [if_neg hq.1]
    by_cases c : ts.2.2.1 = st
    · rw [if_pos c]; exact ⟨fun _ => Or.inl ⟨hb2, c⟩, fun _ => by decide⟩
    · rw [if_neg c]
      refine ⟨fun q => absurd rfl q, fun q => ?_⟩
      rcases q with q | q
      · exact absurd q.2 c
      · exact absurd q.1 hq.2.1
theorem q_al {st sib lf : Int32} {ts : Tk} {rs : Rw} {t me : Nat} (h1 : ts.1 = nI t) (h2 : ts.2.2.2 = nI me) (ht : t ≤ 4800) (hm : 8 * me ≤ t) :
    (FX1_isAligned st sib lf ts rs = 0) ↔ (¬ t % 8 = 0 ∨ (st = 1 ∧ full rs.1 t me)) := by
  have hb := q_behind (st := st) (sib := sib) (lf := lf) (rs := rs) h1 h2 ht hm
  unfold FX1_isAligned FX1_isAtByte
  dsimp only
  rw [h1, q_an7 (by omega)]
  by_cases c : t % 8 = 0
  · rw [if_pos ((q_z (by omega)).mpr c), if_neg (by decide)]
    by_cases d : st = 1
    · rw [if_pos d]
      by_cases e : FX1_isBehindFullByte st sib lf ts rs = 0
      · rw [if_pos e]
        refine ⟨fun q => absurd q (by decide), fun q => ?_⟩
        rcases q with q | q
        · exact absurd c q
        · exact absurd e (hb.mpr q.2)
      · rw [if_neg e]; exact ⟨fun _ => Or.inr ⟨d, hb.mp e⟩, fun _ => rfl⟩
    · rw [if_neg d]
      refine ⟨fun q => absurd q (by decide), fun q => ?_⟩
      rcases q with q | q
      · exact absurd c q
      · exact absurd q.1 d
  · have c2 : ¬ nI (t % 8) = 0 := by rw [q_z (by omega)]; exact c
    rw [if_neg c2, if_pos rfl]
    exact ⟨fun _ => Or.inl c, fun _ => rfl⟩
