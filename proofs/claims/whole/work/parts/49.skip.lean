/-! SKIPPING -/
theorem ablk {α : Type} (K : Tk → Int32 → α) (st b : Int32) (u : Tk) (i : Int32) (w1 w0 : Tk) :
    (if b = 1 then (if st ≤ 1 then K (u.1, u.2.1, u.2.2.1 + 1, u.2.2.2) i else if u.2.2.1 + 1 = st then (if u.1 - u.1 / 8 * 8 = 0 then K (u.1, u.2.1, u.2.2.1 + 1, u.2.2.2) i else K w1 i) else K (u.1, u.2.1, u.2.2.1 + 1, u.2.2.2) i) else (if st ≤ 1 then K (u.1, u.2.1, 0, u.2.2.2) i else if 0 = st then (if u.1 - u.1 / 8 * 8 = 0 then K (u.1, u.2.1, 0, u.2.2.2) i else K w0 i) else K (u.1, u.2.1, 0, u.2.2.2) i)) =
    K (if (¬ st ≤ 1 ∧ (if b = 1 then u.2.2.1 + 1 else 0) = st ∧ ¬ (u.1 - u.1 / 8 * 8 = 0)) then (if b = 1 then w1 else w0) else (u.1, u.2.1, (if b = 1 then u.2.2.1 + 1 else 0), u.2.2.2)) i := by
  by_cases c1 : b = 1
  · simp only [if_pos c1]
    by_cases c2 : st ≤ 1
    · rw [if_pos c2, if_neg (fun q => q.1 c2)]
    · rw [if_neg c2]
      by_cases c3 : u.2.2.1 + 1 = st
      · rw [if_pos c3]
        by_cases c4 : u.1 - u.1 / 8 * 8 = 0
        · rw [if_pos c4, if_neg (fun q => q.2.2 c4)]
        · rw [if_neg c4, if_pos ⟨c2, c3, c4⟩]
      · rw [if_neg c3, if_neg (fun q => c3 q.2.1)]
  · simp only [if_neg c1]
    by_cases c2 : st ≤ 1
    · rw [if_pos c2, if_neg (fun q => q.1 c2)]
    · rw [if_neg c2]
      by_cases c3 : 0 = st
      · rw [if_pos c3]
        by_cases c4 : u.1 - u.1 / 8 * 8 = 0
        · rw [if_pos c4, if_neg (fun q => q.2.2 c4)]
        · rw [if_neg c4, if_pos ⟨c2, c3, c4⟩]
      · rw [if_neg c3, if_neg (fun q => c3 q.2.1)]
def mnx (st lo th : Int32) (bm : Bm) (km : Rw) (qm : Tk) (bd : Int32) (ym : Tk) : Tk :=
  if (¬ st ≤ 1 ∧ (if FX3_bitAt st lo th bm km qm bd ym ym.1 = 1 then (FX3_goOn st lo th bm km qm bd ym).2.2.1 + 1 else 0) = st ∧ ¬ ((FX3_goOn st lo th bm km qm bd ym).1 - (FX3_goOn st lo th bm km qm bd ym).1 / 8 * 8 = 0)) then
    (if FX3_bitAt st lo th bm km qm bd ym ym.1 = 1 then ((FX3_goOn st lo th bm km qm bd ((FX3_goOn st lo th bm km qm bd ym).1, (FX3_goOn st lo th bm km qm bd ym).2.1 + 1, (FX3_goOn st lo th bm km qm bd ym).2.2.1 + 1, (FX3_goOn st lo th bm km qm bd ym).2.2.2)).1, (FX3_goOn st lo th bm km qm bd ((FX3_goOn st lo th bm km qm bd ym).1, (FX3_goOn st lo th bm km qm bd ym).2.1 + 1, (FX3_goOn st lo th bm km qm bd ym).2.2.1 + 1, (FX3_goOn st lo th bm km qm bd ym).2.2.2)).2.1, 0, (FX3_goOn st lo th bm km qm bd ((FX3_goOn st lo th bm km qm bd ym).1, (FX3_goOn st lo th bm km qm bd ym).2.1 + 1, (FX3_goOn st lo th bm km qm bd ym).2.2.1 + 1, (FX3_goOn st lo th bm km qm bd ym).2.2.2)).2.2.2) else
      ((FX3_goOn st lo th bm km qm bd ((FX3_goOn st lo th bm km qm bd ym).1, (FX3_goOn st lo th bm km qm bd ym).2.1 + 1, 0, (FX3_goOn st lo th bm km qm bd ym).2.2.2)).1, (FX3_goOn st lo th bm km qm bd ((FX3_goOn st lo th bm km qm bd ym).1, (FX3_goOn st lo th bm km qm bd ym).2.1 + 1, 0, (FX3_goOn st lo th bm km qm bd ym).2.2.2)).2.1, 0, (FX3_goOn st lo th bm km qm bd ((FX3_goOn st lo th bm km qm bd ym).1, (FX3_goOn st lo th bm km qm bd ym).2.1 + 1, 0, (FX3_goOn st lo th bm km qm bd ym).2.2.2)).2.2.2))
  else ((FX3_goOn st lo th bm km qm bd ym).1, (FX3_goOn st lo th bm km qm bd ym).2.1, (if FX3_bitAt st lo th bm km qm bd ym ym.1 = 1 then (FX3_goOn st lo th bm km qm bd ym).2.2.1 + 1 else 0), (FX3_goOn st lo th bm km qm bd ym).2.2.2)
def cmx (st lo th : Int32) (bm : Bm) (km : Rw) (qm : Tk) (bd : Int32) (ym : Tk) : Tk := ((FX3_goOn st lo th bm km qm bd ym).1, (FX3_goOn st lo th bm km qm bd ym).2.1 + 1, (FX3_goOn st lo th bm km qm bd ym).2.2.1, (FX3_goOn st lo th bm km qm bd ym).2.2.2)
def cms (st lo : Int32) (ym : Tk) : Prop := st = 1 ∧ ¬ ym.2.2.2 = 0 ∧ (ym.1 - ym.1 / 8 * 8) = (if lo = 0 then 0 else 7)
set_option maxHeartbeats 4000000 in
set_option maxRecDepth 10000 in
theorem sk_S {st lo th : Int32} {bm : Bm} {km : Rw} {qm : Tk} {bd : Int32} {ym : Tk} {nn : Int32} : (¬ alC2 st ym → SX3_skip_20 st lo th bm km qm bd ym nn = Sum.inr ()) ∧ (alC2 st ym → cms st lo ym → SX3_skip_20 st lo th bm km qm bd ym nn = Sum.inl ((cmx st lo th bm km qm bd ym), nn)) ∧ (alC2 st ym → ¬ cms st lo ym → SX3_skip_20 st lo th bm km qm bd ym nn = Sum.inl ((mnx st lo th bm km qm bd ym), (nn + 1))) := by
  unfold SX3_skip_20
  unfold alC2 cms cmx
  dsimp only [FX3_keepTry]
  by_cases c1 : ym.1 - ym.1 / 8 * 8 = 0
  · simp only [if_pos c1]
    have c7 : ¬ (0 : Int32) = 7 := by decide
    by_cases c2 : st = 1
    · simp only [if_pos c2]
      by_cases c3 : ym.2.2.2 = 0
      · simp only [if_pos c3]
        refine ⟨fun _ => ?_, fun q => ?_, fun q => ?_⟩
        · split <;> rfl
        · rcases q with q | q
          · exact absurd c1 q
          · exact absurd c3 q.2
        · rcases q with q | q
          · exact absurd c1 q
          · exact absurd c3 q.2
      · simp only [if_neg c3]
        refine ⟨fun q => absurd (Or.inr ⟨c2, c3⟩) q, fun _ q => ?_, fun _ q => ?_⟩
        · by_cases c4 : lo = 0
          · simp only [if_pos c4]
          · have q2 := q.2.2; rw [if_neg c4, c1] at q2; exact absurd q2 c7
        · by_cases c4 : lo = 0
          · exact absurd ⟨c2, c3, by rw [if_pos c4]; exact c1⟩ q
          · have c8 : ¬ ym.1 - ym.1 / 8 * 8 = 7 := by rw [c1]; exact c7
            simp only [if_neg c4, if_neg c8]
            exact ablk (fun y i => Sum.inl (y, i)) st (FX3_bitAt st lo th bm km qm bd ym ym.1) (FX3_goOn st lo th bm km qm bd ym) (nn + 1) _ _
    · simp only [if_neg c2]
      refine ⟨fun _ => ?_, fun q => ?_, fun q => ?_⟩
      · split <;> rfl
      · rcases q with q | q
        · exact absurd c1 q
        · exact absurd q.1 c2
      · rcases q with q | q
        · exact absurd c1 q
        · exact absurd q.1 c2
  · simp only [if_neg c1]
    refine ⟨fun q => absurd (Or.inl c1) q, fun _ q => ?_, fun _ q => ?_⟩
    · simp only [if_pos q.1, if_neg q.2.1]
      by_cases c4 : lo = 0
      · have q2 := q.2.2; rw [if_pos c4] at q2; exact absurd q2 c1
      · have q2 := q.2.2
        rw [if_neg c4] at q2
        simp only [if_neg c4, if_pos q2]
    · by_cases c2 : st = 1
      · simp only [if_pos c2]
        by_cases c3 : ym.2.2.2 = 0
        · simp only [if_pos c3]
          exact ablk (fun y i => Sum.inl (y, i)) st (FX3_bitAt st lo th bm km qm bd ym ym.1) (FX3_goOn st lo th bm km qm bd ym) (nn + 1) _ _
        · simp only [if_neg c3]
          by_cases c4 : lo = 0
          · simp only [if_pos c4]
            exact ablk (fun y i => Sum.inl (y, i)) st (FX3_bitAt st lo th bm km qm bd ym ym.1) (FX3_goOn st lo th bm km qm bd ym) (nn + 1) _ _
          · simp only [if_neg c4]
            have c8 : ¬ ym.1 - ym.1 / 8 * 8 = 7 := fun g => q ⟨c2, c3, by rw [if_neg c4]; exact g⟩
            simp only [if_neg c8]
            exact ablk (fun y i => Sum.inl (y, i)) st (FX3_bitAt st lo th bm km qm bd ym ym.1) (FX3_goOn st lo th bm km qm bd ym) (nn + 1) _ _
      · simp only [if_neg c2]
        exact ablk (fun y i => Sum.inl (y, i)) st (FX3_bitAt st lo th bm km qm bd ym ym.1) (FX3_goOn st lo th bm km qm bd ym) (nn + 1) _ _
set_option maxHeartbeats 4000000 in
set_option maxRecDepth 10000 in
theorem sk_L {st lo th : Int32} {bm : Bm} {km : Rw} {qm : Tk} {bd : Int32} {ym : Tk} {nn : Int32} {n : Nat} : (¬ alC2 st ym → LX3_skip_20 st lo (n + 1) th bm km qm bd ym nn = (if nn ≤ 0 then (nn, th, ym, ym) else (nn, th, (ym.1, ym.2.1, 0, ym.2.2.2), (ym.1, ym.2.1, 0, ym.2.2.2)))) ∧ (alC2 st ym → cms st lo ym → LX3_skip_20 st lo (n + 1) th bm km qm bd ym nn = LX3_skip_20 st lo n th bm km qm bd (cmx st lo th bm km qm bd ym) nn) ∧ (alC2 st ym → ¬ cms st lo ym → LX3_skip_20 st lo (n + 1) th bm km qm bd ym nn = LX3_skip_20 st lo n th bm km qm bd (mnx st lo th bm km qm bd ym) (nn + 1)) := by
  rw [LX3_skip_20]
  unfold alC2 cms cmx
  dsimp only [FX3_keepTry]
  by_cases c1 : ym.1 - ym.1 / 8 * 8 = 0
  · simp only [if_pos c1]
    have c7 : ¬ (0 : Int32) = 7 := by decide
    by_cases c2 : st = 1
    · simp only [if_pos c2]
      by_cases c3 : ym.2.2.2 = 0
      · simp only [if_pos c3]
        refine ⟨fun _ => ?_, fun q => ?_, fun q => ?_⟩
        · trivial
        · rcases q with q | q
          · exact absurd c1 q
          · exact absurd c3 q.2
        · rcases q with q | q
          · exact absurd c1 q
          · exact absurd c3 q.2
      · simp only [if_neg c3]
        refine ⟨fun q => absurd (Or.inr ⟨c2, c3⟩) q, fun _ q => ?_, fun _ q => ?_⟩
        · by_cases c4 : lo = 0
          · simp only [if_pos c4]
          · have q2 := q.2.2; rw [if_neg c4, c1] at q2; exact absurd q2 c7
        · by_cases c4 : lo = 0
          · exact absurd ⟨c2, c3, by rw [if_pos c4]; exact c1⟩ q
          · have c8 : ¬ ym.1 - ym.1 / 8 * 8 = 7 := by rw [c1]; exact c7
            simp only [if_neg c4, if_neg c8]
            exact ablk (fun y i => LX3_skip_20 st lo n th bm km qm bd y i) st (FX3_bitAt st lo th bm km qm bd ym ym.1) (FX3_goOn st lo th bm km qm bd ym) (nn + 1) _ _
    · simp only [if_neg c2]
      refine ⟨fun _ => ?_, fun q => ?_, fun q => ?_⟩
      · trivial
      · rcases q with q | q
        · exact absurd c1 q
        · exact absurd q.1 c2
      · rcases q with q | q
        · exact absurd c1 q
        · exact absurd q.1 c2
  · simp only [if_neg c1]
    refine ⟨fun q => absurd (Or.inl c1) q, fun _ q => ?_, fun _ q => ?_⟩
    · simp only [if_pos q.1, if_neg q.2.1]
      by_cases c4 : lo = 0
      · have q2 := q.2.2; rw [if_pos c4] at q2; exact absurd q2 c1
      · have q2 := q.2.2
        rw [if_neg c4] at q2
        simp only [if_neg c4, if_pos q2]
    · by_cases c2 : st = 1
      · simp only [if_pos c2]
        by_cases c3 : ym.2.2.2 = 0
        · simp only [if_pos c3]
          exact ablk (fun y i => LX3_skip_20 st lo n th bm km qm bd y i) st (FX3_bitAt st lo th bm km qm bd ym ym.1) (FX3_goOn st lo th bm km qm bd ym) (nn + 1) _ _
        · simp only [if_neg c3]
          by_cases c4 : lo = 0
          · simp only [if_pos c4]
            exact ablk (fun y i => LX3_skip_20 st lo n th bm km qm bd y i) st (FX3_bitAt st lo th bm km qm bd ym ym.1) (FX3_goOn st lo th bm km qm bd ym) (nn + 1) _ _
          · simp only [if_neg c4]
            have c8 : ¬ ym.1 - ym.1 / 8 * 8 = 7 := fun g => q ⟨c2, c3, by rw [if_neg c4]; exact g⟩
            simp only [if_neg c8]
            exact ablk (fun y i => LX3_skip_20 st lo n th bm km qm bd y i) st (FX3_bitAt st lo th bm km qm bd ym ym.1) (FX3_goOn st lo th bm km qm bd ym) (nn + 1) _ _
      · simp only [if_neg c2]
        exact ablk (fun y i => LX3_skip_20 st lo n th bm km qm bd y i) st (FX3_bitAt st lo th bm km qm bd ym ym.1) (FX3_goOn st lo th bm km qm bd ym) (nn + 1) _ _
