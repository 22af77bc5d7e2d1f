theorem inv_wok {st lf ao sib : Int32} {wr : Rw} {tw : Tk} {cr : Rw} {tr : Tk} {bad th : Int32} {bm : Bm} {km : Rw} {qm : Tk} {bd : Int32} {ym : Tk} (hI : Inv st lf ao sib wr tw cr tr bad th bm km qm bd ym) : wok bm 400 := by
  obtain ⟨-, ⟨w, me, h1, h2, h3, h4, -⟩, -⟩ := hI
  have e : bm.2.1.toInt = w := by rw [h4]; exact nI_toInt (by omega)
  exact ⟨by omega, by omega⟩
theorem inv_c {st lf ao sib : Int32} {wr : Rw} {tw : Tk} {cr : Rw} {tr : Tk} {bad th : Int32} {bm : Bm} {km : Rw} {qm : Tk} {bd : Int32} {ym : Tk} (hI : Inv st lf ao sib wr tw cr tr bad th bm km qm bd ym) : cOk km := by
  obtain ⟨-, -, ⟨n, h1, h2, h3, -⟩, -⟩ := hI
  have e : km.2.toInt = n := by rw [h3]; exact nI_toInt (by omega)
  exact ⟨by omega, by omega⟩
theorem inv_q {st lf ao sib : Int32} {wr : Rw} {tw : Tk} {cr : Rw} {tr : Tk} {bad th : Int32} {bm : Bm} {km : Rw} {qm : Tk} {bd : Int32} {ym : Tk} (hI : Inv st lf ao sib wr tw cr tr bad th bm km qm bd ym) : yOk km qm := by
  have hc := inv_c hI
  obtain ⟨-, -, -, ⟨t, me, n, h1, h2, h3, h4, h5, h6, h7, h8, h9, -⟩, -⟩ := hI
  have e : qm.1.toInt = t := by rw [h6]; exact nI_toInt (by omega)
  exact ⟨⟨by omega, by omega, hc.1, hc.2⟩, h9⟩
