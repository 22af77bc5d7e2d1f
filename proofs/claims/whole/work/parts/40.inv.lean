/-! THE RELATION between the class's state and the reference's -/
/-- one byte of the reference's row: the bits from 8 j on, those that are there -/
def bstep (lf : Int32) (g : Nat → Bool) (b : Int32) (k : Nat) : Int32 := if g k then b ||| (if lf = 0 then (128 : Int32) >>> (nI k &&& 31) else (1 : Int32) <<< (nI k &&& 31)) else b
def bo (lf : Int32) (g : Nat → Bool) : Int32 := bstep lf g (bstep lf g (bstep lf g (bstep lf g (bstep lf g (bstep lf g (bstep lf g (bstep lf g 0 0) 1) 2) 3) 4) 5) 6) 7
/-- which bits of byte j are there and set -/
def bgot (f : Nat → Int32) (w : Nat) (j : Nat) (k : Nat) : Bool := decide (8 * j + k < w) && decide (¬ f (8 * j + k) = 0)
/-- behind a full byte that no mark made -/
def full (f : Nat → Int32) (t me : Nat) : Prop := 0 < t / 8 ∧ ¬ t / 8 = me ∧ f (t / 8 - 1) = 255
def InvC (st lf ao sib : Int32) : Prop := 0 ≤ st.toInt ∧ st.toInt ≤ 16 ∧ isB lf ∧ isB ao ∧ (ao = 0 ↔ (lf = 0 ∧ st = 1)) ∧ sib = (if lf = 0 then 0 else 7)
/-- writing: w bits are there -/
def InvW (st lf : Int32) (wr : Rw) (tw : Tk) (bm : Bm) : Prop :=
  ∃ w me : Nat, w ≤ 4800 ∧ 8 * me ≤ w ∧ tw.1 = nI w ∧ bm.2.1 = nI w ∧ tw.2.2.2 = nI me ∧ tw.2.1 = bm.2.2.1 ∧ wr.2 = nI ((w + 7) / 8) ∧ (∀ j, j < 600 → wr.1 j = bo lf (bgot bm.1 w j)) ∧ isB bm.2.2.2.2 ∧
  (1 < st.toInt → tw.2.2.1 = bm.2.2.2.1 ∧ 0 ≤ tw.2.2.1.toInt ∧ tw.2.2.1.toInt < st.toInt) ∧
  (st = 1 → (¬ bm.2.2.2.2 = 0 ↔ full wr.1 w me) ∧ (¬ lf = 0 → ¬ (w % 8 = 7 ∧ ¬ bm.2.2.2.2 = 0)))
/-- the bytes that came -/
def InvK (cr km : Rw) : Prop := ∃ n : Nat, n ≤ 600 ∧ cr.2 = nI n ∧ km.2 = nI n ∧ ∀ j, j < n → cr.1 j = km.1 j ∧ 0 ≤ (cr.1 j).toInt ∧ (cr.1 j).toInt ≤ 255
/-- reading: t bits are read -/
def InvR (st lf : Int32) (cr : Rw) (tr : Tk) (qm : Tk) : Prop :=
  ∃ t me n : Nat, cr.2 = nI n ∧ n ≤ 600 ∧ t ≤ 8 * n ∧ 8 * me ≤ t ∧ tr.1 = nI t ∧ qm.1 = nI t ∧ tr.2.2.2 = nI me ∧ tr.2.1 = qm.2.1 ∧ isB qm.2.2.2 ∧
  (1 < st.toInt → tr.2.2.1 = qm.2.2.1 ∧ 0 ≤ tr.2.2.1.toInt ∧ tr.2.2.1.toInt < st.toInt) ∧
  (st = 1 → (¬ qm.2.2.2 = 0 ↔ full cr.1 t me) ∧ (¬ qm.2.2.2 = 0 → t / 8 < n ∧ (cr.1 (t / 8)).toInt < 128) ∧ (¬ lf = 0 → ¬ (t % 8 = 7 ∧ ¬ qm.2.2.2 = 0)) ∧
    (¬ t % 8 = 0 → cr.1 (t / 8) = 255 → t / 8 + 1 < n ∧ (cr.1 (t / 8 + 1)).toInt < 128))
def Inv (st lf ao sib : Int32) (wr : Rw) (tw : Tk) (cr : Rw) (tr : Tk) (bad th : Int32) (bm : Bm) (km : Rw) (qm : Tk) (bd : Int32) (ym : Tk) : Prop :=
  InvC st lf ao sib ∧ InvW st lf wr tw bm ∧ InvK cr km ∧ InvR st lf cr tr qm ∧ bad = bd ∧ isB bad
