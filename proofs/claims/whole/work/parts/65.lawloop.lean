theorem k_5 {x4 : Int32} {i : Nat} (h : x4.toInt = 2 + 5 * (i : Int)) (hi : i ≤ 512) : (x4 + 5).toInt = 2 + 5 * ((i + 1 : Nat) : Int) := by
  rw [addI (n := x4.toInt + 5) (by rw [show (5 : Int32).toInt = 5 from rfl]) (by omega) (by omega)]; push_cast; omega
theorem sc_of {x4 : Int32} {i L : Nat} (hL : L ≤ 2562) (h : x4.toInt = 2 + 5 * (i : Int)) (c : ¬ (Int32.ofNat L - 5) < x4) : scOk x4 L := by
  have e1 : (Int32.ofNat L).toInt = L := nI_toInt (by omega)
  have e2 : (Int32.ofNat L - 5).toInt = L - 5 := subI (by rw [e1, show (5 : Int32).toInt = 5 from rfl]) (by omega) (by omega)
  rw [ltI, e2] at c
  exact ⟨by omega, by omega, hL⟩
set_option maxHeartbeats 4000000 in
set_option maxRecDepth 100000 in
theorem law_loop {p : Program} {l : Launch} {e : Env} {s : State} {m : MethodId} {below : List Frame} {meth : Method} {c : Code} {dC : Nat → ClassId} {dI : Nat → Nat → Nat} {cIw cIc cJ cZ cK : ClassId} {ox ow oaw og oc oac od oo om ob ok : Nat} {A : Nat → Prop} {b L : Nat} {xs : Nat → Int32} {st lf ao sib : Int32} (hL : L ≤ 2562) (hAi : ∀ q : Nat, A q → s.heap.size ≤ q) (hlt : l.stackTraces = false) (hx : p.tables.exec = Jvm.exec) (hb : c.code = cL_law) (hr : meth.sig.returnType = ret) (hlocks : meth.locks = false) (hml : c.maxLocals = 8) (hown : s.vm.findClass RL = some m.cls) (hts : ∀ w ∈ G, w.before #[Value.ref b] s = true) (hX : va_X b L xs s s.heap) (hbl : b < s.heap.size) (hbA : ¬ A b) (hA : ∀ q : Nat, s.heap.size ≤ q → A q) (hZ : zOk s) (hQ : zSt A s s.heap) (hN : zNc s) (hK : va_K (dC, dI) vwCl [(cIw, .int), (cIc, .int), (cJ, .long), (cZ, .boolean), (cK, .int)] s) : ∀ (n i : Nat) (x4 : Int32), 513 ≤ i + n → i ≤ 512 → x4.toInt = 2 + 5 * (i : Int) → ∀ (wr : Rw) (tw : Tk) (cr : Rw) (tr : Tk) (bad : Int32) (ov : (Nat → Int64)) (th : Int32) (bm : Bm) (km : Rw) (qm : Tk) (bd : Int32) (ym : Tk), Inv st lf ao sib wr tw cr tr bad th bm km qm bd ym → ∀ (H : Heap) (locs : List Loc), va_P (dC, dI) vwCl [(ox, .inr (2, [.int st, .int lf, .int ao, .ref ow, .ref og, .ref oc, .ref od, .int bad])), (ow, .inr (0, [.int lf, .ref oaw, .int wr.2])), (oaw, .inl (cIw, 600, .inl wr.1)), (og, .inr (1, [.ref ow, .int st, .int sib, .int tw.1, .int tw.2.1, .int tw.2.2.1, .int tw.2.2.2])), (oc, .inr (0, [.int lf, .ref oac, .int cr.2])), (oac, .inl (cIc, 600, .inl cr.1)), (od, .inr (1, [.ref oc, .int st, .int sib, .int tr.1, .int tr.2.1, .int tr.2.2.1, .int tr.2.2.2])), (oo, .inl (cJ, 1, .inr (.inl ov))), (om, .inr (3, [.int th, .int st, .int lf, .ref ob, .int bm.2.1, .int bm.2.2.1, .int bm.2.2.2.1, .int bm.2.2.2.2, .ref ok, .int km.2, .int qm.1, .int qm.2.1, .int qm.2.2.1, .int qm.2.2.2, .int bd, .int ym.1, .int ym.2.1, .int ym.2.2.1, .int ym.2.2.2])), (ob, .inl (cZ, 5200, .inl bm.1)), (ok, .inl (cK, 600, .inl km.1))] H → va_D A [(ox, .inr (2, [.int st, .int lf, .int ao, .ref ow, .ref og, .ref oc, .ref od, .int bad])), (ow, .inr (0, [.int lf, .ref oaw, .int wr.2])), (oaw, .inl (cIw, 600, .inl wr.1)), (og, .inr (1, [.ref ow, .int st, .int sib, .int tw.1, .int tw.2.1, .int tw.2.2.1, .int tw.2.2.2])), (oc, .inr (0, [.int lf, .ref oac, .int cr.2])), (oac, .inl (cIc, 600, .inl cr.1)), (od, .inr (1, [.ref oc, .int st, .int sib, .int tr.1, .int tr.2.1, .int tr.2.2.1, .int tr.2.2.2])), (oo, .inl (cJ, 1, .inr (.inl ov))), (om, .inr (3, [.int th, .int st, .int lf, .ref ob, .int bm.2.1, .int bm.2.2.1, .int bm.2.2.2.1, .int bm.2.2.2.2, .ref ok, .int km.2, .int qm.1, .int qm.2.1, .int qm.2.2.1, .int qm.2.2.2, .int bd, .int ym.1, .int ym.2.1, .int ym.2.2.1, .int ym.2.2.2])), (ob, .inl (cZ, 5200, .inl bm.1)), (ok, .inl (cK, 600, .inl km.1))] → va_S A s.heap H locs → ∀ ls : Array Slot, lv_has ls 8 [(0, .ref b), (1, .ref ox), (2, .ref om), (3, .ref oo), (4, .int x4)] → W p l e room_1 s m #[Value.ref b] below meth c H locs (11 + 2 * i) (7048 + 12 * i) (lw_Z below #[Value.ref b] s) (F0 m 43 ls []) := by
  intro n
  induction n with
  | zero => intro i x4 h1 h2; exact absurd h1 (by omega)
  | succ n ih =>
    intro i x4 hin hi2 ex4 wr tw cr tr bad ov th bm km qm bd ym hI H locs hP hD hS ls hl
    refine lv_iload hx hb dL_law_43 (lv_at hl 4 rfl) ?_
    refine lv_aload_n hx hb dL_law_45 rfl (lv_at hl 0 rfl) ?_
    refine va_slen hx hb hX hbl hbA hS dL_law_46 ?_
    refine lv_iconst (v := 5) hx hb dL_law_47 (by decide) ?_
    refine lv_isub hx hb dL_law_48 ?_
    refine lv_icmp_gt (tgt := 843) hx hb dL_law_49 (by decide) (fun c_49 => ?_) (fun c_49 => ?_)
    · refine lv_iconst (v := 1) hx hb dL_law_843 (by decide) ?_
      refine va_forget (fun q hq => hAi _ (hS.2.2 q hq)) ?_
      refine W.widen (k := 1049) (n := 15324) (by omega) (by omega) ?_
      exact lw_ret hx hb hr hlocks dL_law_844
    · have hi := sc_of hL ex4 c_49
      have hi511 : i ≤ 511 := by have := hi.2.1; have := hi.2.2; omega
      have k837 : ∀ (wr : Rw) (tw : Tk) (cr : Rw) (tr : Tk) (bad : Int32) (ov : (Nat → Int64)) (th : Int32) (bm : Bm) (km : Rw) (qm : Tk) (bd : Int32) (ym : Tk), Inv st lf ao sib wr tw cr tr bad th bm km qm bd ym → ∀ (H : Heap) (locs : List Loc), va_P (dC, dI) vwCl [(ox, .inr (2, [.int st, .int lf, .int ao, .ref ow, .ref og, .ref oc, .ref od, .int bad])), (ow, .inr (0, [.int lf, .ref oaw, .int wr.2])), (oaw, .inl (cIw, 600, .inl wr.1)), (og, .inr (1, [.ref ow, .int st, .int sib, .int tw.1, .int tw.2.1, .int tw.2.2.1, .int tw.2.2.2])), (oc, .inr (0, [.int lf, .ref oac, .int cr.2])), (oac, .inl (cIc, 600, .inl cr.1)), (od, .inr (1, [.ref oc, .int st, .int sib, .int tr.1, .int tr.2.1, .int tr.2.2.1, .int tr.2.2.2])), (oo, .inl (cJ, 1, .inr (.inl ov))), (om, .inr (3, [.int th, .int st, .int lf, .ref ob, .int bm.2.1, .int bm.2.2.1, .int bm.2.2.2.1, .int bm.2.2.2.2, .ref ok, .int km.2, .int qm.1, .int qm.2.1, .int qm.2.2.1, .int qm.2.2.2, .int bd, .int ym.1, .int ym.2.1, .int ym.2.2.1, .int ym.2.2.2])), (ob, .inl (cZ, 5200, .inl bm.1)), (ok, .inl (cK, 600, .inl km.1))] H → va_D A [(ox, .inr (2, [.int st, .int lf, .int ao, .ref ow, .ref og, .ref oc, .ref od, .int bad])), (ow, .inr (0, [.int lf, .ref oaw, .int wr.2])), (oaw, .inl (cIw, 600, .inl wr.1)), (og, .inr (1, [.ref ow, .int st, .int sib, .int tw.1, .int tw.2.1, .int tw.2.2.1, .int tw.2.2.2])), (oc, .inr (0, [.int lf, .ref oac, .int cr.2])), (oac, .inl (cIc, 600, .inl cr.1)), (od, .inr (1, [.ref oc, .int st, .int sib, .int tr.1, .int tr.2.1, .int tr.2.2.1, .int tr.2.2.2])), (oo, .inl (cJ, 1, .inr (.inl ov))), (om, .inr (3, [.int th, .int st, .int lf, .ref ob, .int bm.2.1, .int bm.2.2.1, .int bm.2.2.2.1, .int bm.2.2.2.2, .ref ok, .int km.2, .int qm.1, .int qm.2.1, .int qm.2.2.1, .int qm.2.2.2, .int bd, .int ym.1, .int ym.2.1, .int ym.2.2.1, .int ym.2.2.2])), (ob, .inl (cZ, 5200, .inl bm.1)), (ok, .inl (cK, 600, .inl km.1))] → va_S A s.heap H locs → ∀ ls : Array Slot, lv_has ls 8 [(0, .ref b), (1, .ref ox), (2, .ref om), (3, .ref oo), (4, .int x4)] → W p l e room_1 s m #[Value.ref b] below meth c H locs (11 + 2 * i + 2) (7048 + 12 * i + 12) (lw_Z below #[Value.ref b] s) (F0 m 837 ls []) := by
        intro wr tw cr tr bad ov th bm km qm bd ym hI H locs hP hD hS ls hl
        refine lv_iinc (v := x4 + 5) (lv' := [(4, .int (x4 + 5)), (0, .ref b), (1, .ref ox), (2, .ref om), (3, .ref oo)]) hx hb dL_law_837 hl (k := 4) rfl rfl (by decide) rfl (fun ls hl => ?_)
        refine lv_goto (tgt := 43) hx hb dL_law_840 (by decide) ?_
        refine W.widen (k := 11 + 2 * (i + 1)) (n := 7048 + 12 * (i + 1)) (by omega) (by omega) ?_
        exact ih (i + 1) (x4 + 5) (by omega) (by omega) (k_5 ex4 hi2) wr tw cr tr bad ov th bm km qm bd ym hI H locs hP hD hS ls (lv_sub hl [1, 2, 3, 4, 0] rfl)
      refine lv_aload_n hx hb dL_law_52 rfl (lv_at hl 0 rfl) ?_
      refine lv_iload hx hb dL_law_53 (lv_at hl 4 rfl) ?_
      refine va_sld hx hb hX hbl hbA hS (sc_0 hi) dL_law_55 ?_
      refine lv_bipush (v := 15) hx hb dL_law_56 (by decide) ?_
      refine lv_iand hx hb dL_law_58 ?_
      refine lv_topi (fun v ev => ?_)
      by_cases c59_0 : v = 0
      · refine lv_tableIn (off := 69) (tgt := 128) hx hb dL_law_59 (by rw [c59_0]; decide) (by rw [c59_0]; decide) (by rw [c59_0]; decide) (by decide) ?_
        exact lc_0 hlt hx hb hr hlocks hml hown hts hX hbl hbA hA hZ hQ hN hK (by omega) (by omega) hi k837 wr tw cr tr bad ov th bm km qm bd ym hI _ _ hP hD hS ls hl
      by_cases c59_1 : v = 1
      · refine lv_tableIn (off := 137) (tgt := 196) hx hb dL_law_59 (by rw [c59_1]; decide) (by rw [c59_1]; decide) (by rw [c59_1]; decide) (by decide) ?_
        exact lc_1 hlt hx hb hr hlocks hml hown hts hX hbl hbA hA hZ hQ hN hK (by omega) (by omega) hi k837 wr tw cr tr bad ov th bm km qm bd ym hI _ _ hP hD hS ls hl
      by_cases c59_2 : v = 2
      · refine lv_tableIn (off := 181) (tgt := 240) hx hb dL_law_59 (by rw [c59_2]; decide) (by rw [c59_2]; decide) (by rw [c59_2]; decide) (by decide) ?_
        exact lc_2 hlt hx hb hr hlocks hml hown hts hX hbl hbA hA hZ hQ hN hK (by omega) (by omega) hi k837 wr tw cr tr bad ov th bm km qm bd ym hI _ _ hP hD hS ls hl
      by_cases c59_3 : v = 3
      · refine lv_tableIn (off := 237) (tgt := 296) hx hb dL_law_59 (by rw [c59_3]; decide) (by rw [c59_3]; decide) (by rw [c59_3]; decide) (by decide) ?_
        exact lc_3 hlt hx hb hr hlocks hml hown hts hX hbl hbA hA hZ hQ hN hK (by omega) (by omega) hi k837 wr tw cr tr bad ov th bm km qm bd ym hI _ _ hP hD hS ls hl
      by_cases c59_4 : v = 4
      · refine lv_tableIn (off := 317) (tgt := 376) hx hb dL_law_59 (by rw [c59_4]; decide) (by rw [c59_4]; decide) (by rw [c59_4]; decide) (by decide) ?_
        exact lc_4 hlt hx hb hr hlocks hml hown hts hX hbl hbA hA hZ hQ hN hK (by omega) (by omega) hi k837 wr tw cr tr bad ov th bm km qm bd ym hI _ _ hP hD hS ls hl
      by_cases c59_5 : v = 5
      · refine lv_tableIn (off := 373) (tgt := 432) hx hb dL_law_59 (by rw [c59_5]; decide) (by rw [c59_5]; decide) (by rw [c59_5]; decide) (by decide) ?_
        exact lc_5 hlt hx hb hr hlocks hml hown hts hX hbl hbA hA hZ hQ hN hK (by omega) (by omega) hi k837 wr tw cr tr bad ov th bm km qm bd ym hI _ _ hP hD hS ls hl
      by_cases c59_6 : v = 6
      · refine lv_tableIn (off := 429) (tgt := 488) hx hb dL_law_59 (by rw [c59_6]; decide) (by rw [c59_6]; decide) (by rw [c59_6]; decide) (by decide) ?_
        exact lc_6 hlt hx hb hr hlocks hml hown hts hX hbl hbA hA hZ hQ hN hK (by omega) (by omega) hi k837 wr tw cr tr bad ov th bm km qm bd ym hI _ _ hP hD hS ls hl
      by_cases c59_7 : v = 7
      · refine lv_tableIn (off := 497) (tgt := 556) hx hb dL_law_59 (by rw [c59_7]; decide) (by rw [c59_7]; decide) (by rw [c59_7]; decide) (by decide) ?_
        exact lc_7 hlt hx hb hr hlocks hml hown hts hX hbl hbA hA hZ hQ hN hK (by omega) (by omega) hi k837 wr tw cr tr bad ov th bm km qm bd ym hI _ _ hP hD hS ls hl
      by_cases c59_8 : v = 8
      · refine lv_tableIn (off := 552) (tgt := 611) hx hb dL_law_59 (by rw [c59_8]; decide) (by rw [c59_8]; decide) (by rw [c59_8]; decide) (by decide) ?_
        exact lc_8 hlt hx hb hr hlocks hml hown hts hX hbl hbA hA hZ hQ hN hK (by omega) (by omega) hi k837 wr tw cr tr bad ov th bm km qm bd ym hI _ _ hP hD hS ls hl
      by_cases c59_9 : v = 9
      · refine lv_tableIn (off := 565) (tgt := 624) hx hb dL_law_59 (by rw [c59_9]; decide) (by rw [c59_9]; decide) (by rw [c59_9]; decide) (by decide) ?_
        exact lc_9 hlt hx hb hr hlocks hml hown hts hX hbl hbA hA hZ hQ hN hK (by omega) (by omega) hi k837 wr tw cr tr bad ov th bm km qm bd ym hI _ _ hP hD hS ls hl
      by_cases c59_10 : v = 10
      · refine lv_tableIn (off := 578) (tgt := 637) hx hb dL_law_59 (by rw [c59_10]; decide) (by rw [c59_10]; decide) (by rw [c59_10]; decide) (by decide) ?_
        exact lc_10 hlt hx hb hr hlocks hml hown hts hX hbl hbA hA hZ hQ hN hK (by omega) (by omega) hi k837 wr tw cr tr bad ov th bm km qm bd ym hI _ _ hP hD hS ls hl
      by_cases c59_11 : v = 11
      · refine lv_tableIn (off := 634) (tgt := 693) hx hb dL_law_59 (by rw [c59_11]; decide) (by rw [c59_11]; decide) (by rw [c59_11]; decide) (by decide) ?_
        exact lc_11 hlt hx hb hr hlocks hml hown hts hX hbl hbA hA hZ hQ hN hK (by omega) (by omega) hi k837 wr tw cr tr bad ov th bm km qm bd ym hI _ _ hP hD hS ls hl
      by_cases c59_12 : v = 12
      · refine lv_tableIn (off := 742) (tgt := 801) hx hb dL_law_59 (by rw [c59_12]; decide) (by rw [c59_12]; decide) (by rw [c59_12]; decide) (by decide) ?_
        exact lc_12 hlt hx hb hr hlocks hml hown hts hX hbl hbA hA hZ hQ hN hK (by omega) (by omega) hi k837 wr tw cr tr bad ov th bm km qm bd ym hI _ _ hP hD hS ls hl
      by_cases c59_13 : v = 13
      · refine lv_tableIn (off := 767) (tgt := 826) hx hb dL_law_59 (by rw [c59_13]; decide) (by rw [c59_13]; decide) (by rw [c59_13]; decide) (by decide) ?_
        exact lc_13 hlt hx hb hr hlocks hml hown hts hX hbl hbA hA hZ hQ hN hK (by omega) (by omega) hi k837 wr tw cr tr bad ov th bm km qm bd ym hI _ _ hP hD hS ls hl
      refine lv_tableOut (tgt := 837) hx hb dL_law_59 (by have q0 := lv_neT c59_0 (a := 0) (by decide); have q1 := lv_neT c59_1 (a := 1) (by decide); have q2 := lv_neT c59_2 (a := 2) (by decide); have q3 := lv_neT c59_3 (a := 3) (by decide); have q4 := lv_neT c59_4 (a := 4) (by decide); have q5 := lv_neT c59_5 (a := 5) (by decide); have q6 := lv_neT c59_6 (a := 6) (by decide); have q7 := lv_neT c59_7 (a := 7) (by decide); have q8 := lv_neT c59_8 (a := 8) (by decide); have q9 := lv_neT c59_9 (a := 9) (by decide); have q10 := lv_neT c59_10 (a := 10) (by decide); have q11 := lv_neT c59_11 (a := 11) (by decide); have q12 := lv_neT c59_12 (a := 12) (by decide); have q13 := lv_neT c59_13 (a := 13) (by decide); omega) (by decide) ?_
      refine W.widen (k := 11 + 2 * i + 2) (n := 7048 + 12 * i + 12) (by omega) (by omega) ?_
      exact k837 wr tw cr tr bad ov th bm km qm bd ym hI _ _ hP hD hS ls hl
