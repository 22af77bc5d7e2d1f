noncomputable def big : Nat := Classical.choose (⟨601, rfl⟩ : ∃ n : Nat, n = 601)
theorem big_eq : big = 601 := Classical.choose_spec (⟨601, rfl⟩ : ∃ n : Nat, n = 601)
def fz (i b : Int32) : Nat := (b.toInt - i.toInt).toNat + 1
theorem fz_ok (i b : Int32) : fuel (fz i b) i b := ⟨Nat.succ_pos _, by unfold fz; omega⟩
theorem fuel_step2 {n : Nat} {i i' b : Int32} (h : fuel (n + 1) i b) (hi : i < b) (e : i' = i + 1) : fuel n i' b := by rw [e]; exact fuel_step h hi
theorem nneg2 {i i' b : Int32} (h0 : ¬ i < 0) (hi : i < b) (e : i' = i + 1) : ¬ i' < 0 := by
  rw [e, Int32.lt_iff_toInt_lt, i1 hi]; rw [Int32.lt_iff_toInt_lt] at h0
  have : (0 : Int32).toInt = 0 := rfl
  omega
def LX0_sumOf16_27 (p0 : Int32) (p1 : Int32) (i : Int32) : Nat → Int32 → Int32 → Int32 × Int32
  | 0, sm, k => (sm, k)
  | n + 1, sm, k =>
    if 8 ≤ k then
      (sm, k)
    else
      if (sm &&& 32768) = 0 then
        let x_1 := sm <<< (1 &&& 31)
        let i_2 := k + 1
        LX0_sumOf16_27 p0 p1 i n x_1 i_2
      else
        let x_3 := (sm <<< (1 &&& 31)) ^^^ 4129
        let i_4 := k + 1
        LX0_sumOf16_27 p0 p1 i n x_3 i_4
def LX0_sumOf16_6 (lf : Int32) : Nat → Rw → Int32 → Int32 → Int32 → Int32 → Int32
  | 0, rs, p0, p1, sm, i => 0
  | n + 1, rs, p0, p1, sm, i =>
    if p1 ≤ i then
      sm
    else
      let r_1 := FX0_byteOf lf rs i
      let x_3 := sm ^^^ (r_1 <<< (8 &&& 31))
      let zhw_6 := LX0_sumOf16_27 p0 p1 i 9 x_3 0
      let sm_4 := zhw_6.1
      let k_5 := zhw_6.2
      let x_7 := sm_4 &&& 65535
      let i_8 := i + 1
      LX0_sumOf16_6 lf n rs p0 p1 x_7 i_8
def FX0_sumOf16 (lf : Int32) (rs : Rw) (p0 : Int32) (p1 : Int32) : Int32 :=
  LX0_sumOf16_6 lf (fz p0 p1) rs p0 p1 65535 p0
set_option maxRecDepth 100000 in
theorem plX0_sumOf16_l27_0 (p0 : Int32) (p1 : Int32) (i : Int32) (n : Nat) (sm : Int32) (k : Int32) (c_31 : 8 ≤ k) : (sm, k) = LX0_sumOf16_27 p0 p1 i (n + 1) sm k := by
  exact (if_pos c_31).symm
set_option maxRecDepth 100000 in
theorem plX0_sumOf16_l27_1 (p0 : Int32) (p1 : Int32) (i : Int32) (n : Nat) (sm : Int32) (k : Int32) (c_31 : ¬ (8 ≤ k)) (c_38 : (sm &&& 32768) = 0) (x_1 : Int32) (ex_1 : x_1 = sm <<< (1 &&& 31)) (i_2 : Int32) (ei_2 : i_2 = k + 1) : LX0_sumOf16_27 p0 p1 i n x_1 i_2 = LX0_sumOf16_27 p0 p1 i (n + 1) sm k := by
  subst ex_1
  subst ei_2
  exact ((if_neg c_31).trans (if_pos c_38)).symm
set_option maxRecDepth 100000 in
theorem plX0_sumOf16_l27_2 (p0 : Int32) (p1 : Int32) (i : Int32) (n : Nat) (sm : Int32) (k : Int32) (c_31 : ¬ (8 ≤ k)) (c_38 : ¬ ((sm &&& 32768) = 0)) (x_3 : Int32) (ex_3 : x_3 = (sm <<< (1 &&& 31)) ^^^ 4129) (i_4 : Int32) (ei_4 : i_4 = k + 1) : LX0_sumOf16_27 p0 p1 i n x_3 i_4 = LX0_sumOf16_27 p0 p1 i (n + 1) sm k := by
  subst ex_3
  subst ei_4
  exact ((if_neg c_31).trans (if_neg c_38)).symm
set_option maxRecDepth 100000 in
theorem plX0_sumOf16_l6_0 (lf : Int32) (n : Nat) (rs : Rw) (p0 : Int32) (p1 : Int32) (sm : Int32) (i : Int32) (c_9 : p1 ≤ i) : sm = LX0_sumOf16_6 lf (n + 1) rs p0 p1 sm i := by
  exact (if_pos c_9).symm
set_option maxRecDepth 100000 in
theorem plX0_sumOf16_l6_1 (lf : Int32) (n : Nat) (rs : Rw) (p0 : Int32) (p1 : Int32) (sm : Int32) (i : Int32) (c_9 : ¬ (p1 ≤ i)) (r_1 : Int32) (hw_2 : r_1 = FX0_byteOf lf rs i) (x_3 : Int32) (ex_3 : x_3 = sm ^^^ (r_1 <<< (8 &&& 31))) (sm_4 : Int32) (k_5 : Int32) (hw_6 : (sm_4, k_5) = LX0_sumOf16_27 p0 p1 i 9 x_3 0) (x_7 : Int32) (ex_7 : x_7 = sm_4 &&& 65535) (i_8 : Int32) (ei_8 : i_8 = i + 1) : LX0_sumOf16_6 lf n rs p0 p1 x_7 i_8 = LX0_sumOf16_6 lf (n + 1) rs p0 p1 sm i := by
  subst hw_2
  subst ex_3
  have q0 := congrArg (fun z => z.1) hw_6
  have q1 := congrArg (fun z => z.2) hw_6
  dsimp only at q0 q1
  subst q0
  subst q1
  clear hw_6
  subst ex_7
  subst ei_8
  exact (if_neg c_9).symm
set_option maxRecDepth 100000 in
theorem plX0_sumOf16_0 (lf : Int32) (rs : Rw) (p0 : Int32) (p1 : Int32)  : LX0_sumOf16_6 lf (fz p0 p1) rs p0 p1 65535 p0 = FX0_sumOf16 lf rs p0 p1 := by
  exact rfl
set_option maxHeartbeats 4000000 in
set_option maxRecDepth 100000 in
theorem kX0_sumOf16_27 {p : Program} {l : Launch} {e : Env} {R : Room} {s : State} {m : MethodId} {args : Array Value} {below : List Frame} {meth : Method} {c : Code} {H : Heap} {locs : List Loc} {cells slots : Nat} {Q : State → Prop} {o : Nat} {p0 : Int32} {p1 : Int32} {i : Int32} (hx : p.tables.exec = Jvm.exec) (hb : c.code = cX0_sumOf16) (hml : c.maxLocals = 6) (hown : s.vm.findClass RX0 = some m.cls) (hts : ∀ w ∈ G, w.before args s = true) : ∀ (n : Nat) (sm : Int32) (k : Int32), fuel n k 8 → ∀ (ls : Array Slot), lv_has ls 6 [(0, .ref o), (1, .int p0), (2, .int p1), (4, .int i), (3, .int sm), (5, .int k)] → (∀ (sm' : Int32) (k' : Int32), (sm', k') = LX0_sumOf16_27 p0 p1 i n sm k → ∀ (ls : Array Slot), lv_has ls 6 [(0, .ref o), (1, .int p0), (2, .int p1), (4, .int i), (3, .int sm'), (5, .int k')] → W p l e R s m args below meth c H locs cells slots Q (F0 m 61 ls [])) → W p l e R s m args below meth c H locs cells slots Q (F0 m 27 ls []) := by
  intro n
  induction n with
  | zero =>
    intro sm k hf
    exact absurd hf.1 (Nat.lt_irrefl 0)
  | succ n ih =>
    intro sm k hf ls hl kk
    refine lv_iload hx hb dX0_sumOf16_27 (lv_at hl 5 rfl) ?_
    refine lv_bipush (v := 8) hx hb dX0_sumOf16_29 (by decide) ?_
    refine lv_icmp_ge (tgt := 61) hx hb dX0_sumOf16_31 (by decide) (fun c_31 => ?_) (fun c_31 => ?_)
    · exact kk sm k (plX0_sumOf16_l27_0 p0 p1 i n sm k c_31) ls (lv_sub hl [0, 1, 2, 3, 4, 5] rfl)
    · refine lv_iload_n hx hb dX0_sumOf16_34 rfl (lv_at hl 4 rfl) ?_
      refine lv_ldc (v := 32768) hx hb hown (hts _ wd425) dX0_sumOf16_35 ?_
      refine lv_iand hx hb dX0_sumOf16_37 ?_
      refine lv_if_eq (tgt := 51) hx hb dX0_sumOf16_38 (by decide) (fun c_38 => ?_) (fun c_38 => ?_)
      · refine lv_iload_n hx hb dX0_sumOf16_51 rfl (lv_at hl 4 rfl) ?_
        refine lv_iconst (v := 1) hx hb dX0_sumOf16_52 (by decide) ?_
        refine lv_ishl hx hb dX0_sumOf16_53 ?_
        refine lv_topi (fun x_1 ex_1 => ?_)
        refine lv_istore_n (lv' := [(3, .int x_1), (0, .ref o), (1, .int p0), (2, .int p1), (4, .int i), (5, .int k)]) hx hb dX0_sumOf16_54 rfl hl (by decide) rfl (fun ls hl => ?_)
        obtain ⟨i_2, ei_2⟩ : ∃ y : Int32, y = k + 1 := ⟨_, rfl⟩
        refine lv_iinc (v := i_2) (lv' := [(5, .int i_2), (3, .int x_1), (0, .ref o), (1, .int p0), (2, .int p1), (4, .int i)]) hx hb dX0_sumOf16_55 hl (k := 5) rfl (by rw [ei_2]; rfl) (by decide) rfl (fun ls hl => ?_)
        refine lv_goto (tgt := 27) hx hb dX0_sumOf16_58 (by decide) ?_
        exact ih x_1 i_2 (fuel_step2 hf (nle_lt c_31) (by assumption)) ls (lv_sub hl [2, 3, 4, 5, 1, 0] rfl) (fun v0 v1 ev ls hl => kk v0 v1 (ev.trans (plX0_sumOf16_l27_1 p0 p1 i n sm k c_31 c_38 _ ex_1 _ ei_2)) ls hl)
      · refine lv_iload_n hx hb dX0_sumOf16_41 rfl (lv_at hl 4 rfl) ?_
        refine lv_iconst (v := 1) hx hb dX0_sumOf16_42 (by decide) ?_
        refine lv_ishl hx hb dX0_sumOf16_43 ?_
        refine lv_sipush (v := 4129) hx hb dX0_sumOf16_44 (by decide) ?_
        refine lv_ixor hx hb dX0_sumOf16_47 ?_
        refine lv_goto (tgt := 54) hx hb dX0_sumOf16_48 (by decide) ?_
        refine lv_topi (fun x_3 ex_3 => ?_)
        refine lv_istore_n (lv' := [(3, .int x_3), (0, .ref o), (1, .int p0), (2, .int p1), (4, .int i), (5, .int k)]) hx hb dX0_sumOf16_54 rfl hl (by decide) rfl (fun ls hl => ?_)
        obtain ⟨i_4, ei_4⟩ : ∃ y : Int32, y = k + 1 := ⟨_, rfl⟩
        refine lv_iinc (v := i_4) (lv' := [(5, .int i_4), (3, .int x_3), (0, .ref o), (1, .int p0), (2, .int p1), (4, .int i)]) hx hb dX0_sumOf16_55 hl (k := 5) rfl (by rw [ei_4]; rfl) (by decide) rfl (fun ls hl => ?_)
        refine lv_goto (tgt := 27) hx hb dX0_sumOf16_58 (by decide) ?_
        exact ih x_3 i_4 (fuel_step2 hf (nle_lt c_31) (by assumption)) ls (lv_sub hl [2, 3, 4, 5, 1, 0] rfl) (fun v0 v1 ev ls hl => kk v0 v1 (ev.trans (plX0_sumOf16_l27_2 p0 p1 i n sm k c_31 c_38 _ ex_3 _ ei_4)) ls hl)
set_option maxHeartbeats 4000000 in
set_option maxRecDepth 100000 in
theorem kX0_sumOf16_6 {p : Program} {l : Launch} {e : Env} {s : State} {m : MethodId} {args : Array Value} {below : List Frame} {meth : Method} {c : Code} {dC : Nat → ClassId} {dI : Nat → Nat → Nat} {cI : ClassId} {o oa : Nat} {lf : Int32} {z : Int32} (hx : p.tables.exec = Jvm.exec) (hb : c.code = cX0_sumOf16) (hr : meth.sig.returnType = (some .int)) (hml : c.maxLocals = 6) (hown : s.vm.findClass RX0 = some m.cls) (hts : ∀ w ∈ G, w.before args s = true) (hlocks : meth.locks = false) (hZ : zOk s) (hK : va_K (dC, dI) vwCl [(cI, .int)] s) : ∀ (n : Nat) (rs : Rw) (p0 : Int32) (p1 : Int32) (sm : Int32) (i : Int32), (fuel n i p1) → LX0_sumOf16_6 lf n rs p0 p1 sm i = z → va_P (dC, dI) vwCl [(o, .inr (0, [.int lf, .ref oa, .int rs.2])), (oa, .inl (cI, 600, .inl rs.1))] s.heap → ∀ (ls : Array Slot), lv_has ls 6 [(0, .ref o), (1, .int p0), (2, .int p1), (3, .int sm), (4, .int i)] → W p l e (headSpec (Cond.code yX0_sumOf16 cX0_sumOf16 6 (some .int) :: G) ({ frames := 1, cells := 0, slots := 0, locals := 21 } : Room)).room s m args below meth c s.heap [] 0 0 (MQ below (vp_Si (fun r => r = z)) args s 0 0 (fun _ => False)) (F0 m 6 ls []) := by
  intro n
  induction n with
  | zero =>
    intro rs p0 p1 sm i hf hz
    exact absurd hf.1 (Nat.lt_irrefl 0)
  | succ n ih =>
    intro rs p0 p1 sm i hf hz hP ls hl
    refine lv_iload hx hb dX0_sumOf16_6 (lv_at hl 4 rfl) ?_
    refine lv_iload_n hx hb dX0_sumOf16_8 rfl (lv_at hl 2 rfl) ?_
    refine lv_icmp_ge (tgt := 72) hx hb dX0_sumOf16_9 (by decide) (fun c_9 => ?_) (fun c_9 => ?_)
    · refine lv_iload_n hx hb dX0_sumOf16_72 rfl (lv_at hl 3 rfl) ?_
      exact W.iret (v := sm) hx hb hr (fun t ht hW => ⟨sm, rfl, ((plX0_sumOf16_l6_0 lf n rs p0 p1 sm i c_9).trans hz), ht⟩) (fun q h => nomatch h) dX0_sumOf16_73
    · refine lv_iload_n hx hb dX0_sumOf16_12 rfl (lv_at hl 3 rfl) ?_
      refine lv_aload_n hx hb dX0_sumOf16_13 rfl (lv_at hl 0 rfl) ?_
      refine lv_iload hx hb dX0_sumOf16_14 (lv_at hl 4 rfl) ?_
      have hPc := hP.sub (ws' := [(o, .inr (0, [.int lf, .ref oa, .int rs.2])), (oa, .inl (cI, 600, .inl rs.1))]) [0, 1] rfl
      have hKc := hK.sub (tys' := [(cI, .int)]) [0] rfl
      refine vp_callSi (va_Run.run (va_runV (As := [.int i]) (rest := [.int sm]) ⟨hx, hb, hml, hown, hts⟩ (mX0_byteOf l dC dI cI o oa lf rs i) (cwV 1 hts (gV wd154 wd139 wd140 wd28 wd141) rfl rfl rfl (by decide +kernel) ⟨Nat.le_of_ble_eq_true rfl, Nat.le_of_ble_eq_true rfl⟩) ⟨fb_ro, va_recv hKc hPc (ci := 0) (q0 := 0) rfl rfl, pre_ro hPc hKc hZ⟩ rfl rfl hl.1 rfl (lv_room (Nat.le_of_ble_eq_true rfl)) dX0_sumOf16_16 ⟨Nat.le_of_ble_eq_true rfl, Nat.le_of_ble_eq_true rfl⟩)) (fun r_1 hw_2 => ?_)
      refine lv_bipush (v := 8) hx hb dX0_sumOf16_19 (by decide) ?_
      refine lv_ishl hx hb dX0_sumOf16_21 ?_
      refine lv_ixor hx hb dX0_sumOf16_22 ?_
      refine lv_topi (fun x_3 ex_3 => ?_)
      refine lv_istore_n (lv' := [(3, .int x_3), (0, .ref o), (1, .int p0), (2, .int p1), (4, .int i)]) hx hb dX0_sumOf16_23 rfl hl (by decide) rfl (fun ls hl => ?_)
      refine lv_iconst (v := 0) hx hb dX0_sumOf16_24 (by decide) ?_
      refine lv_istore (lv' := [(5, .int 0), (3, .int x_3), (0, .ref o), (1, .int p0), (2, .int p1), (4, .int i)]) hx hb dX0_sumOf16_25 hl (by decide) rfl (fun ls hl => ?_)
      refine kX0_sumOf16_27 hx hb hml hown hts 9 x_3 0 (fuel_of (by decide) (by decide)) ls (lv_sub hl [2, 3, 4, 5, 1, 0] rfl) (fun sm_4 k_5 hw_6 ls hl => ?_)
      refine lv_iload_n hx hb dX0_sumOf16_61 rfl (lv_at hl 4 rfl) ?_
      refine lv_ldc (v := 65535) hx hb hown (hts _ wd424) dX0_sumOf16_62 ?_
      refine lv_iand hx hb dX0_sumOf16_64 ?_
      refine lv_topi (fun x_7 ex_7 => ?_)
      refine lv_istore_n (lv' := [(3, .int x_7), (0, .ref o), (1, .int p0), (2, .int p1), (4, .int i), (5, .int k_5)]) hx hb dX0_sumOf16_65 rfl hl (by decide) rfl (fun ls hl => ?_)
      obtain ⟨i_8, ei_8⟩ : ∃ y : Int32, y = i + 1 := ⟨_, rfl⟩
      refine lv_iinc (v := i_8) (lv' := [(4, .int i_8), (3, .int x_7), (0, .ref o), (1, .int p0), (2, .int p1), (5, .int k_5)]) hx hb dX0_sumOf16_66 hl (k := 4) rfl (by rw [ei_8]; rfl) (by decide) rfl (fun ls hl => ?_)
      refine lv_goto (tgt := 6) hx hb dX0_sumOf16_69 (by decide) ?_
      exact ih rs p0 p1 x_7 i_8 (fuel_step2 hf (nle_lt c_9) (by assumption)) ((plX0_sumOf16_l6_1 lf n rs p0 p1 sm i c_9 _ hw_2 _ ex_3 _ _ hw_6 _ ex_7 _ ei_8).trans hz) (hP.sub (ws' := [(o, .inr (0, [.int lf, .ref oa, .int rs.2])), (oa, .inl (cI, 600, .inl rs.1))]) [0, 1] rfl) ls (lv_sub hl [2, 3, 4, 1, 0] rfl)
set_option maxHeartbeats 4000000 in
set_option maxRecDepth 100000 in
theorem mX0_sumOf16 (l : Launch) (dC : Nat → ClassId) (dI : Nat → Nat → Nat) (cI : ClassId) (o oa : Nat) (lf : Int32) (rs : Rw) (p0 : Int32) (p1 : Int32) : Met l yX0_sumOf16 (Cond.code yX0_sumOf16 cX0_sumOf16 6 (some .int) :: G) ({ frames := 1, cells := 0, slots := 0, locals := 21 } : Room) (va_Pc [.ref o, .int p0, .int p1] (fun U => va_P (dC, dI) vwCl [(o, .inr (0, [.int lf, .ref oa, .int rs.2])), (oa, .inl (cI, 600, .inl rs.1))] U.heap ∧ va_K (dC, dI) vwCl [(cI, .int)] U ∧ zOk U)) (vp_Si (fun r => r = (FX0_sumOf16 lf rs p0 p1))) 0 0 (fun _ => False) := by
  refine Met.ofW (cc := cX0_sumOf16) (maxL := 6) (ret := (some .int)) (by decide) rfl ?_
  intro p e s m args below meth c s₁ B hml hv
  obtain ⟨rfl, hP, hK, hZ⟩ := hv
  have hx := B.exec
  have hb := B.bytes
  have hr := B.returns
  have hts : ∀ w ∈ G, w.before [.ref o, .int p0, .int p1].toArray s = true := fun w h => atoms_spec (ws := (Cond.code yX0_sumOf16 cX0_sumOf16 6 (some .int) :: G)) B.pre w (List.mem_cons_of_mem _ h)
  have hown : s.vm.findClass RX0 = some m.cls := findClass_of_methodNamed B.named
  have hlocks := B.notSynchronized
  have hl := lv_entry ([.ref o, .int p0, .int p1]) (n := 6) (Nat.le_of_ble_eq_true rfl)
  rw [lg_entry_eq]
  generalize (lg_sl ([.ref o, .int p0, .int p1]) ++ List.replicate (6 - (lg_sl ([.ref o, .int p0, .int p1])).length) Slot.unset).toArray = ls at hl ⊢
  have hl : lv_has ls 6 [(0, .ref o), (1, .int p0), (2, .int p1)] := hl
  refine lv_ldc (v := 65535) hx hb hown (hts _ wd424) dX0_sumOf16_0 ?_
  refine lv_istore_n (lv' := [(3, .int 65535), (0, .ref o), (1, .int p0), (2, .int p1)]) hx hb dX0_sumOf16_2 rfl hl (by decide) rfl (fun ls hl => ?_)
  refine lv_iload_n hx hb dX0_sumOf16_3 rfl (lv_at hl 2 rfl) ?_
  refine lv_istore (lv' := [(4, .int p0), (3, .int 65535), (0, .ref o), (1, .int p0), (2, .int p1)]) hx hb dX0_sumOf16_4 hl (by decide) rfl (fun ls hl => ?_)
  exact kX0_sumOf16_6 hx hb hr hml hown hts hlocks hZ hK (fz p0 p1) rs p0 p1 65535 p0 (fz_ok _ _) (plX0_sumOf16_0 lf rs p0 p1) (hP.sub (ws' := [(o, .inr (0, [.int lf, .ref oa, .int rs.2])), (oa, .inl (cI, 600, .inl rs.1))]) [0, 1] rfl) ls (lv_sub hl [2, 3, 4, 1, 0] rfl)
def LX0_sumOf32_23 (p0 : Int32) (p1 : Int32) (i : Int32) : Nat → Int32 → Int32 → Int32 × Int32
  | 0, sm, k => (sm, k)
  | n + 1, sm, k =>
    if 8 ≤ k then
      (sm, k)
    else
      if (sm &&& 1) = 0 then
        let x_1 := (sm.toUInt32 >>> ((1 : Int32).toUInt32 &&& Int32.toUInt32 31)).toInt32
        let i_2 := k + 1
        LX0_sumOf32_23 p0 p1 i n x_1 i_2
      else
        let x_3 := ((sm.toUInt32 >>> ((1 : Int32).toUInt32 &&& Int32.toUInt32 31)).toInt32) ^^^ (-306674912)
        let i_4 := k + 1
        LX0_sumOf32_23 p0 p1 i n x_3 i_4
def LX0_sumOf32_5 (lf : Int32) : Nat → Rw → Int32 → Int32 → Int32 → Int32 → Int32
  | 0, rs, p0, p1, sm, i => 0
  | n + 1, rs, p0, p1, sm, i =>
    if p1 ≤ i then
      sm ^^^ (-1)
    else
      let r_1 := FX0_byteOf lf rs i
      let x_3 := sm ^^^ r_1
      let zhw_6 := LX0_sumOf32_23 p0 p1 i 9 x_3 0
      let sm_4 := zhw_6.1
      let k_5 := zhw_6.2
      let i_7 := i + 1
      LX0_sumOf32_5 lf n rs p0 p1 sm_4 i_7
def FX0_sumOf32 (lf : Int32) (rs : Rw) (p0 : Int32) (p1 : Int32) : Int32 :=
  LX0_sumOf32_5 lf (fz p0 p1) rs p0 p1 (-1) p0
set_option maxRecDepth 100000 in
theorem plX0_sumOf32_l23_0 (p0 : Int32) (p1 : Int32) (i : Int32) (n : Nat) (sm : Int32) (k : Int32) (c_27 : 8 ≤ k) : (sm, k) = LX0_sumOf32_23 p0 p1 i (n + 1) sm k := by
  exact (if_pos c_27).symm
set_option maxRecDepth 100000 in
theorem plX0_sumOf32_l23_1 (p0 : Int32) (p1 : Int32) (i : Int32) (n : Nat) (sm : Int32) (k : Int32) (c_27 : ¬ (8 ≤ k)) (c_33 : (sm &&& 1) = 0) (x_1 : Int32) (ex_1 : x_1 = (sm.toUInt32 >>> ((1 : Int32).toUInt32 &&& Int32.toUInt32 31)).toInt32) (i_2 : Int32) (ei_2 : i_2 = k + 1) : LX0_sumOf32_23 p0 p1 i n x_1 i_2 = LX0_sumOf32_23 p0 p1 i (n + 1) sm k := by
  subst ex_1
  subst ei_2
  exact ((if_neg c_27).trans (if_pos c_33)).symm
set_option maxRecDepth 100000 in
theorem plX0_sumOf32_l23_2 (p0 : Int32) (p1 : Int32) (i : Int32) (n : Nat) (sm : Int32) (k : Int32) (c_27 : ¬ (8 ≤ k)) (c_33 : ¬ ((sm &&& 1) = 0)) (x_3 : Int32) (ex_3 : x_3 = ((sm.toUInt32 >>> ((1 : Int32).toUInt32 &&& Int32.toUInt32 31)).toInt32) ^^^ (-306674912)) (i_4 : Int32) (ei_4 : i_4 = k + 1) : LX0_sumOf32_23 p0 p1 i n x_3 i_4 = LX0_sumOf32_23 p0 p1 i (n + 1) sm k := by
  subst ex_3
  subst ei_4
  exact ((if_neg c_27).trans (if_neg c_33)).symm
set_option maxRecDepth 100000 in
theorem plX0_sumOf32_l5_0 (lf : Int32) (n : Nat) (rs : Rw) (p0 : Int32) (p1 : Int32) (sm : Int32) (i : Int32) (c_8 : p1 ≤ i) : sm ^^^ (-1) = LX0_sumOf32_5 lf (n + 1) rs p0 p1 sm i := by
  exact (if_pos c_8).symm
set_option maxRecDepth 100000 in
theorem plX0_sumOf32_l5_1 (lf : Int32) (n : Nat) (rs : Rw) (p0 : Int32) (p1 : Int32) (sm : Int32) (i : Int32) (c_8 : ¬ (p1 ≤ i)) (r_1 : Int32) (hw_2 : r_1 = FX0_byteOf lf rs i) (x_3 : Int32) (ex_3 : x_3 = sm ^^^ r_1) (sm_4 : Int32) (k_5 : Int32) (hw_6 : (sm_4, k_5) = LX0_sumOf32_23 p0 p1 i 9 x_3 0) (i_7 : Int32) (ei_7 : i_7 = i + 1) : LX0_sumOf32_5 lf n rs p0 p1 sm_4 i_7 = LX0_sumOf32_5 lf (n + 1) rs p0 p1 sm i := by
  subst hw_2
  subst ex_3
  have q0 := congrArg (fun z => z.1) hw_6
  have q1 := congrArg (fun z => z.2) hw_6
  dsimp only at q0 q1
  subst q0
  subst q1
  clear hw_6
  subst ei_7
  exact (if_neg c_8).symm
set_option maxRecDepth 100000 in
theorem plX0_sumOf32_0 (lf : Int32) (rs : Rw) (p0 : Int32) (p1 : Int32)  : LX0_sumOf32_5 lf (fz p0 p1) rs p0 p1 (-1) p0 = FX0_sumOf32 lf rs p0 p1 := by
  exact rfl
set_option maxHeartbeats 4000000 in
set_option maxRecDepth 100000 in
theorem kX0_sumOf32_23 {p : Program} {l : Launch} {e : Env} {R : Room} {s : State} {m : MethodId} {args : Array Value} {below : List Frame} {meth : Method} {c : Code} {H : Heap} {locs : List Loc} {cells slots : Nat} {Q : State → Prop} {o : Nat} {p0 : Int32} {p1 : Int32} {i : Int32} (hx : p.tables.exec = Jvm.exec) (hb : c.code = cX0_sumOf32) (hml : c.maxLocals = 6) (hown : s.vm.findClass RX0 = some m.cls) (hts : ∀ w ∈ G, w.before args s = true) : ∀ (n : Nat) (sm : Int32) (k : Int32), fuel n k 8 → ∀ (ls : Array Slot), lv_has ls 6 [(0, .ref o), (1, .int p0), (2, .int p1), (4, .int i), (3, .int sm), (5, .int k)] → (∀ (sm' : Int32) (k' : Int32), (sm', k') = LX0_sumOf32_23 p0 p1 i n sm k → ∀ (ls : Array Slot), lv_has ls 6 [(0, .ref o), (1, .int p0), (2, .int p1), (4, .int i), (3, .int sm'), (5, .int k')] → W p l e R s m args below meth c H locs cells slots Q (F0 m 55 ls [])) → W p l e R s m args below meth c H locs cells slots Q (F0 m 23 ls []) := by
  intro n
  induction n with
  | zero =>
    intro sm k hf
    exact absurd hf.1 (Nat.lt_irrefl 0)
  | succ n ih =>
    intro sm k hf ls hl kk
    refine lv_iload hx hb dX0_sumOf32_23 (lv_at hl 5 rfl) ?_
    refine lv_bipush (v := 8) hx hb dX0_sumOf32_25 (by decide) ?_
    refine lv_icmp_ge (tgt := 55) hx hb dX0_sumOf32_27 (by decide) (fun c_27 => ?_) (fun c_27 => ?_)
    · exact kk sm k (plX0_sumOf32_l23_0 p0 p1 i n sm k c_27) ls (lv_sub hl [0, 1, 2, 3, 4, 5] rfl)
    · refine lv_iload_n hx hb dX0_sumOf32_30 rfl (lv_at hl 4 rfl) ?_
      refine lv_iconst (v := 1) hx hb dX0_sumOf32_31 (by decide) ?_
      refine lv_iand hx hb dX0_sumOf32_32 ?_
      refine lv_if_eq (tgt := 45) hx hb dX0_sumOf32_33 (by decide) (fun c_33 => ?_) (fun c_33 => ?_)
      · refine lv_iload_n hx hb dX0_sumOf32_45 rfl (lv_at hl 4 rfl) ?_
        refine lv_iconst (v := 1) hx hb dX0_sumOf32_46 (by decide) ?_
        refine lv_iushr (v := (sm.toUInt32 >>> ((1 : Int32).toUInt32 &&& Int32.toUInt32 31)).toInt32) hx hb dX0_sumOf32_47 rfl ?_
        refine lv_topi (fun x_1 ex_1 => ?_)
        refine lv_istore_n (lv' := [(3, .int x_1), (0, .ref o), (1, .int p0), (2, .int p1), (4, .int i), (5, .int k)]) hx hb dX0_sumOf32_48 rfl hl (by decide) rfl (fun ls hl => ?_)
        obtain ⟨i_2, ei_2⟩ : ∃ y : Int32, y = k + 1 := ⟨_, rfl⟩
        refine lv_iinc (v := i_2) (lv' := [(5, .int i_2), (3, .int x_1), (0, .ref o), (1, .int p0), (2, .int p1), (4, .int i)]) hx hb dX0_sumOf32_49 hl (k := 5) rfl (by rw [ei_2]; rfl) (by decide) rfl (fun ls hl => ?_)
        refine lv_goto (tgt := 23) hx hb dX0_sumOf32_52 (by decide) ?_
        exact ih x_1 i_2 (fuel_step2 hf (nle_lt c_27) (by assumption)) ls (lv_sub hl [2, 3, 4, 5, 1, 0] rfl) (fun v0 v1 ev ls hl => kk v0 v1 (ev.trans (plX0_sumOf32_l23_1 p0 p1 i n sm k c_27 c_33 _ ex_1 _ ei_2)) ls hl)
      · refine lv_iload_n hx hb dX0_sumOf32_36 rfl (lv_at hl 4 rfl) ?_
        refine lv_iconst (v := 1) hx hb dX0_sumOf32_37 (by decide) ?_
        refine lv_iushr (v := (sm.toUInt32 >>> ((1 : Int32).toUInt32 &&& Int32.toUInt32 31)).toInt32) hx hb dX0_sumOf32_38 rfl ?_
        refine lv_ldc (v := (-306674912)) hx hb hown (hts _ wd430) dX0_sumOf32_39 ?_
        refine lv_ixor hx hb dX0_sumOf32_41 ?_
        refine lv_goto (tgt := 48) hx hb dX0_sumOf32_42 (by decide) ?_
        refine lv_topi (fun x_3 ex_3 => ?_)
        refine lv_istore_n (lv' := [(3, .int x_3), (0, .ref o), (1, .int p0), (2, .int p1), (4, .int i), (5, .int k)]) hx hb dX0_sumOf32_48 rfl hl (by decide) rfl (fun ls hl => ?_)
        obtain ⟨i_4, ei_4⟩ : ∃ y : Int32, y = k + 1 := ⟨_, rfl⟩
        refine lv_iinc (v := i_4) (lv' := [(5, .int i_4), (3, .int x_3), (0, .ref o), (1, .int p0), (2, .int p1), (4, .int i)]) hx hb dX0_sumOf32_49 hl (k := 5) rfl (by rw [ei_4]; rfl) (by decide) rfl (fun ls hl => ?_)
        refine lv_goto (tgt := 23) hx hb dX0_sumOf32_52 (by decide) ?_
        exact ih x_3 i_4 (fuel_step2 hf (nle_lt c_27) (by assumption)) ls (lv_sub hl [2, 3, 4, 5, 1, 0] rfl) (fun v0 v1 ev ls hl => kk v0 v1 (ev.trans (plX0_sumOf32_l23_2 p0 p1 i n sm k c_27 c_33 _ ex_3 _ ei_4)) ls hl)
set_option maxHeartbeats 4000000 in
set_option maxRecDepth 100000 in
theorem kX0_sumOf32_5 {p : Program} {l : Launch} {e : Env} {s : State} {m : MethodId} {args : Array Value} {below : List Frame} {meth : Method} {c : Code} {dC : Nat → ClassId} {dI : Nat → Nat → Nat} {cI : ClassId} {o oa : Nat} {lf : Int32} {z : Int32} (hx : p.tables.exec = Jvm.exec) (hb : c.code = cX0_sumOf32) (hr : meth.sig.returnType = (some .int)) (hml : c.maxLocals = 6) (hown : s.vm.findClass RX0 = some m.cls) (hts : ∀ w ∈ G, w.before args s = true) (hlocks : meth.locks = false) (hZ : zOk s) (hK : va_K (dC, dI) vwCl [(cI, .int)] s) : ∀ (n : Nat) (rs : Rw) (p0 : Int32) (p1 : Int32) (sm : Int32) (i : Int32), (fuel n i p1) → LX0_sumOf32_5 lf n rs p0 p1 sm i = z → va_P (dC, dI) vwCl [(o, .inr (0, [.int lf, .ref oa, .int rs.2])), (oa, .inl (cI, 600, .inl rs.1))] s.heap → ∀ (ls : Array Slot), lv_has ls 6 [(0, .ref o), (1, .int p0), (2, .int p1), (3, .int sm), (4, .int i)] → W p l e (headSpec (Cond.code yX0_sumOf32 cX0_sumOf32 6 (some .int) :: G) ({ frames := 1, cells := 0, slots := 0, locals := 21 } : Room)).room s m args below meth c s.heap [] 0 0 (MQ below (vp_Si (fun r => r = z)) args s 0 0 (fun _ => False)) (F0 m 5 ls []) := by
  intro n
  induction n with
  | zero =>
    intro rs p0 p1 sm i hf hz
    exact absurd hf.1 (Nat.lt_irrefl 0)
  | succ n ih =>
    intro rs p0 p1 sm i hf hz hP ls hl
    refine lv_iload hx hb dX0_sumOf32_5 (lv_at hl 4 rfl) ?_
    refine lv_iload_n hx hb dX0_sumOf32_7 rfl (lv_at hl 2 rfl) ?_
    refine lv_icmp_ge (tgt := 61) hx hb dX0_sumOf32_8 (by decide) (fun c_8 => ?_) (fun c_8 => ?_)
    · refine lv_iload_n hx hb dX0_sumOf32_61 rfl (lv_at hl 3 rfl) ?_
      refine lv_iconst (v := (-1)) hx hb dX0_sumOf32_62 (by decide) ?_
      refine lv_ixor hx hb dX0_sumOf32_63 ?_
      exact W.iret (v := sm ^^^ (-1)) hx hb hr (fun t ht hW => ⟨sm ^^^ (-1), rfl, ((plX0_sumOf32_l5_0 lf n rs p0 p1 sm i c_8).trans hz), ht⟩) (fun q h => nomatch h) dX0_sumOf32_64
    · refine lv_iload_n hx hb dX0_sumOf32_11 rfl (lv_at hl 3 rfl) ?_
      refine lv_aload_n hx hb dX0_sumOf32_12 rfl (lv_at hl 0 rfl) ?_
      refine lv_iload hx hb dX0_sumOf32_13 (lv_at hl 4 rfl) ?_
      have hPc := hP.sub (ws' := [(o, .inr (0, [.int lf, .ref oa, .int rs.2])), (oa, .inl (cI, 600, .inl rs.1))]) [0, 1] rfl
      have hKc := hK.sub (tys' := [(cI, .int)]) [0] rfl
      refine vp_callSi (va_Run.run (va_runV (As := [.int i]) (rest := [.int sm]) ⟨hx, hb, hml, hown, hts⟩ (mX0_byteOf l dC dI cI o oa lf rs i) (cwV 1 hts (gV wd154 wd139 wd140 wd28 wd141) rfl rfl rfl (by decide +kernel) ⟨Nat.le_of_ble_eq_true rfl, Nat.le_of_ble_eq_true rfl⟩) ⟨fb_ro, va_recv hKc hPc (ci := 0) (q0 := 0) rfl rfl, pre_ro hPc hKc hZ⟩ rfl rfl hl.1 rfl (lv_room (Nat.le_of_ble_eq_true rfl)) dX0_sumOf32_15 ⟨Nat.le_of_ble_eq_true rfl, Nat.le_of_ble_eq_true rfl⟩)) (fun r_1 hw_2 => ?_)
      refine lv_ixor hx hb dX0_sumOf32_18 ?_
      refine lv_topi (fun x_3 ex_3 => ?_)
      refine lv_istore_n (lv' := [(3, .int x_3), (0, .ref o), (1, .int p0), (2, .int p1), (4, .int i)]) hx hb dX0_sumOf32_19 rfl hl (by decide) rfl (fun ls hl => ?_)
      refine lv_iconst (v := 0) hx hb dX0_sumOf32_20 (by decide) ?_
      refine lv_istore (lv' := [(5, .int 0), (3, .int x_3), (0, .ref o), (1, .int p0), (2, .int p1), (4, .int i)]) hx hb dX0_sumOf32_21 hl (by decide) rfl (fun ls hl => ?_)
      refine kX0_sumOf32_23 hx hb hml hown hts 9 x_3 0 (fuel_of (by decide) (by decide)) ls (lv_sub hl [2, 3, 4, 5, 1, 0] rfl) (fun sm_4 k_5 hw_6 ls hl => ?_)
      obtain ⟨i_7, ei_7⟩ : ∃ y : Int32, y = i + 1 := ⟨_, rfl⟩
      refine lv_iinc (v := i_7) (lv' := [(4, .int i_7), (0, .ref o), (1, .int p0), (2, .int p1), (3, .int sm_4), (5, .int k_5)]) hx hb dX0_sumOf32_55 hl (k := 3) rfl (by rw [ei_7]; rfl) (by decide) rfl (fun ls hl => ?_)
      refine lv_goto (tgt := 5) hx hb dX0_sumOf32_58 (by decide) ?_
      exact ih rs p0 p1 sm_4 i_7 (fuel_step2 hf (nle_lt c_8) (by assumption)) ((plX0_sumOf32_l5_1 lf n rs p0 p1 sm i c_8 _ hw_2 _ ex_3 _ _ hw_6 _ ei_7).trans hz) (hP.sub (ws' := [(o, .inr (0, [.int lf, .ref oa, .int rs.2])), (oa, .inl (cI, 600, .inl rs.1))]) [0, 1] rfl) ls (lv_sub hl [1, 2, 3, 4, 0] rfl)
set_option maxHeartbeats 4000000 in
set_option maxRecDepth 100000 in
theorem mX0_sumOf32 (l : Launch) (dC : Nat → ClassId) (dI : Nat → Nat → Nat) (cI : ClassId) (o oa : Nat) (lf : Int32) (rs : Rw) (p0 : Int32) (p1 : Int32) : Met l yX0_sumOf32 (Cond.code yX0_sumOf32 cX0_sumOf32 6 (some .int) :: G) ({ frames := 1, cells := 0, slots := 0, locals := 21 } : Room) (va_Pc [.ref o, .int p0, .int p1] (fun U => va_P (dC, dI) vwCl [(o, .inr (0, [.int lf, .ref oa, .int rs.2])), (oa, .inl (cI, 600, .inl rs.1))] U.heap ∧ va_K (dC, dI) vwCl [(cI, .int)] U ∧ zOk U)) (vp_Si (fun r => r = (FX0_sumOf32 lf rs p0 p1))) 0 0 (fun _ => False) := by
  refine Met.ofW (cc := cX0_sumOf32) (maxL := 6) (ret := (some .int)) (by decide) rfl ?_
  intro p e s m args below meth c s₁ B hml hv
  obtain ⟨rfl, hP, hK, hZ⟩ := hv
  have hx := B.exec
  have hb := B.bytes
  have hr := B.returns
  have hts : ∀ w ∈ G, w.before [.ref o, .int p0, .int p1].toArray s = true := fun w h => atoms_spec (ws := (Cond.code yX0_sumOf32 cX0_sumOf32 6 (some .int) :: G)) B.pre w (List.mem_cons_of_mem _ h)
  have hown : s.vm.findClass RX0 = some m.cls := findClass_of_methodNamed B.named
  have hlocks := B.notSynchronized
  have hl := lv_entry ([.ref o, .int p0, .int p1]) (n := 6) (Nat.le_of_ble_eq_true rfl)
  rw [lg_entry_eq]
  generalize (lg_sl ([.ref o, .int p0, .int p1]) ++ List.replicate (6 - (lg_sl ([.ref o, .int p0, .int p1])).length) Slot.unset).toArray = ls at hl ⊢
  have hl : lv_has ls 6 [(0, .ref o), (1, .int p0), (2, .int p1)] := hl
  refine lv_iconst (v := (-1)) hx hb dX0_sumOf32_0 (by decide) ?_
  refine lv_istore_n (lv' := [(3, .int (-1)), (0, .ref o), (1, .int p0), (2, .int p1)]) hx hb dX0_sumOf32_1 rfl hl (by decide) rfl (fun ls hl => ?_)
  refine lv_iload_n hx hb dX0_sumOf32_2 rfl (lv_at hl 2 rfl) ?_
  refine lv_istore (lv' := [(4, .int p0), (3, .int (-1)), (0, .ref o), (1, .int p0), (2, .int p1)]) hx hb dX0_sumOf32_3 hl (by decide) rfl (fun ls hl => ?_)
  exact kX0_sumOf32_5 hx hb hr hml hown hts hlocks hZ hK (fz p0 p1) rs p0 p1 (-1) p0 (fz_ok _ _) (plX0_sumOf32_0 lf rs p0 p1) (hP.sub (ws' := [(o, .inr (0, [.int lf, .ref oa, .int rs.2])), (oa, .inl (cI, 600, .inl rs.1))]) [0, 1] rfl) ls (lv_sub hl [2, 3, 4, 1, 0] rfl)
noncomputable def LJ7_fill_5  : Nat → (Nat → Int32) → Int32 → Int32 → Int32 → (Nat → Int32)
  | 0, fa, p0, i, ln => fa
  | n + 1, fa, p0, i, ln =>
    if ln ≤ i then
      fa
    else
      let i_1 := i + 1
      LJ7_fill_5 n (upd fa i.toNatClampNeg p0) p0 i_1 ln
noncomputable def FJ7_fill (fa : (Nat → Int32)) (p0 : Int32) : (Nat → Int32) :=
  LJ7_fill_5 big fa p0 0 600
set_option maxRecDepth 100000 in
theorem plJ7_fill_l5_0 (n : Nat) (fa : (Nat → Int32)) (p0 : Int32) (i : Int32) (ln : Int32) (c_7 : ln ≤ i) : fa = LJ7_fill_5 (n + 1) fa p0 i ln := by
  exact (if_pos c_7).symm
set_option maxRecDepth 100000 in
theorem plJ7_fill_l5_1 (n : Nat) (fa : (Nat → Int32)) (p0 : Int32) (i : Int32) (ln : Int32) (c_7 : ¬ (ln ≤ i)) (i_1 : Int32) (ei_1 : i_1 = i + 1) : LJ7_fill_5 n (upd fa i.toNatClampNeg p0) p0 i_1 ln = LJ7_fill_5 (n + 1) fa p0 i ln := by
  subst ei_1
  exact (if_neg c_7).symm
set_option maxRecDepth 100000 in
theorem plJ7_fill_0 (fa : (Nat → Int32)) (p0 : Int32)  : LJ7_fill_5 big fa p0 0 600 = FJ7_fill fa p0 := by
  exact rfl
set_option maxHeartbeats 4000000 in
set_option maxRecDepth 100000 in
theorem kJ7_fill_5 {p : Program} {l : Launch} {e : Env} {s : State} {m : MethodId} {args : Array Value} {below : List Frame} {meth : Method} {c : Code} {dC : Nat → ClassId} {dI : Nat → Nat → Nat} {cI : ClassId} {oa : Nat} {z : (Nat → Int32)} {A : Nat → Prop} (hx : p.tables.exec = Jvm.exec) (hb : c.code = cJ7_fill) (hr : meth.sig.returnType = none) (hml : c.maxLocals = 4) (hown : s.vm.findClass RJ7 = some m.cls) (hts : ∀ w ∈ G, w.before args s = true) (hlocks : meth.locks = false) (hA : ∀ q : Nat, s.heap.size ≤ q → A q) (hZ : zOk s) (hK : va_K (dC, dI) vwCl [(cI, .int)] s) : ∀ (n : Nat) (fa : (Nat → Int32)) (p0 : Int32) (i : Int32) (ln : Int32), (fuel n i ln) → (ln = 600) → (¬ i < 0) → LJ7_fill_5 n fa p0 i ln = z → ∀ (H : Heap) (locs : List Loc), va_P (dC, dI) vwCl [(oa, .inl (cI, 600, .inl fa))] H → va_D A [(oa, .inl (cI, 600, .inl fa))] → va_S A s.heap H locs → ∀ (ls : Array Slot), lv_has ls 4 [(0, .ref oa), (1, .int p0), (2, .int i), (3, .int ln)] → W p l e (headSpec (Cond.code yJ7_fill cJ7_fill 4 none :: G) ({ frames := 0, cells := 0, slots := 0, locals := 0 } : Room)).room s m args below meth c H locs 0 0 (MQ below (va_Qv (fun (u : (Nat → Int32)) => u = z) (fun (u : (Nat → Int32)) (t : State) => va_P (dC, dI) vwCl [(oa, .inl (cI, 600, .inl u))] t.heap ∧ va_D A [(oa, .inl (cI, 600, .inl u))]) A) args s 0 0 A) (F0 m 5 ls []) := by
  intro n
  induction n with
  | zero =>
    intro fa p0 i ln hf hn h0 hz
    exact absurd hf.1 (Nat.lt_irrefl 0)
  | succ n ih =>
    intro fa p0 i ln hf hn h0 hz H locs hP hD hS ls hl
    refine lv_iload_n hx hb dJ7_fill_5 rfl (lv_at hl 2 rfl) ?_
    refine lv_iload_n hx hb dJ7_fill_6 rfl (lv_at hl 3 rfl) ?_
    refine lv_icmp_ge (tgt := 20) hx hb dJ7_fill_7 (by decide) (fun c_7 => ?_) (fun c_7 => ?_)
    · have hP9 := hP.sub (ws' := [(oa, .inl (cI, 600, .inl fa))]) [0] rfl
      have hD9 := hD.sub (ws' := [(oa, .inl (cI, 600, .inl fa))]) [0] (by decide) rfl
      exact W.vret hx hb hr (fun t ht hW => ⟨⟨fa, rfl, ((plJ7_fill_l5_0 n fa p0 i ln c_7).trans hz), by rw [ht]; exact hP9, hD9⟩, hS.F ht⟩) hS.2.2 dJ7_fill_20
    · refine lv_aload_n hx hb dJ7_fill_10 rfl (lv_at hl 0 rfl) ?_
      refine lv_iload_n hx hb dJ7_fill_11 rfl (lv_at hl 2 rfl) ?_
      refine lv_iload_n hx hb dJ7_fill_12 rfl (lv_at hl 1 rfl) ?_
      refine va_iast hx hb hK hP hD hS 0 0 rfl rfl (vin2 (n := 600) h0 (by subst hn; exact c_7) (by decide)) dJ7_fill_13 (fun H locs hP hD hS => ?_)
      have hP : va_P (dC, dI) vwCl [(oa, .inl (cI, 600, .inl (upd fa i.toNatClampNeg p0)))] H := hP
      have hD : va_D A [(oa, .inl (cI, 600, .inl (upd fa i.toNatClampNeg p0)))] := hD
      obtain ⟨i_1, ei_1⟩ : ∃ y : Int32, y = i + 1 := ⟨_, rfl⟩
      refine lv_iinc (v := i_1) (lv' := [(2, .int i_1), (0, .ref oa), (1, .int p0), (3, .int ln)]) hx hb dJ7_fill_14 hl (k := 2) rfl (by rw [ei_1]; rfl) (by decide) rfl (fun ls hl => ?_)
      refine lv_goto (tgt := 5) hx hb dJ7_fill_17 (by decide) ?_
      exact ih (upd fa i.toNatClampNeg p0) p0 i_1 ln (fuel_step2 hf (nle_lt c_7) (by assumption)) hn (nneg2 h0 (nle_lt c_7) (by assumption)) ((plJ7_fill_l5_1 n fa p0 i ln c_7 _ ei_1).trans hz) _ _ (hP.sub (ws' := [(oa, .inl (cI, 600, .inl (upd fa i.toNatClampNeg p0)))]) [0] rfl) (hD.sub (ws' := [(oa, .inl (cI, 600, .inl (upd fa i.toNatClampNeg p0)))]) [0] (by decide) rfl) hS ls (lv_sub hl [1, 2, 0, 3] rfl)
set_option maxHeartbeats 4000000 in
set_option maxRecDepth 100000 in
theorem mJ7_fill (l : Launch) (dC : Nat → ClassId) (dI : Nat → Nat → Nat) (cI : ClassId) (oa : Nat) (sz : Nat) (fa : (Nat → Int32)) (p0 : Int32) : Met l yJ7_fill (Cond.code yJ7_fill cJ7_fill 4 none :: G) ({ frames := 0, cells := 0, slots := 0, locals := 0 } : Room) (va_Pc [.ref oa, .int p0] (fun U => U.heap.size = sz ∧ va_P (dC, dI) vwCl [(oa, .inl (cI, 600, .inl fa))] U.heap ∧ va_K (dC, dI) vwCl [(cI, .int)] U ∧ va_D (fun _ => True) [(oa, .inl (cI, 600, .inl fa))] ∧ zOk U)) (va_Qv (fun (u : (Nat → Int32)) => u = (FJ7_fill fa p0)) (fun (u : (Nat → Int32)) (t : State) => va_P (dC, dI) vwCl [(oa, .inl (cI, 600, .inl u))] t.heap ∧ va_D (va_A [(oa, .inl (cI, 600, .inl fa))] sz) [(oa, .inl (cI, 600, .inl u))]) (va_A [(oa, .inl (cI, 600, .inl fa))] sz)) 0 0 (va_A [(oa, .inl (cI, 600, .inl fa))] sz) := by
  refine Met.ofW (cc := cJ7_fill) (maxL := 4) (ret := none) (by decide) rfl ?_
  intro p e s m args below meth c s₁ B hml hv
  obtain ⟨rfl, hsz, hP, hK, hD0, hZ⟩ := hv
  have hx := B.exec
  have hb := B.bytes
  have hr := B.returns
  have hts : ∀ w ∈ G, w.before [.ref oa, .int p0].toArray s = true := fun w h => atoms_spec (ws := (Cond.code yJ7_fill cJ7_fill 4 none :: G)) B.pre w (List.mem_cons_of_mem _ h)
  have hown : s.vm.findClass RJ7 = some m.cls := findClass_of_methodNamed B.named
  have hlocks := B.notSynchronized
  subst hsz
  have hD := hD0.self (sz := s.heap.size)
  generalize hAe : va_A [(oa, .inl (cI, 600, .inl fa))] s.heap.size = A at hD ⊢
  have hA : ∀ q : Nat, s.heap.size ≤ q → A q := fun q h => by rw [← hAe]; exact Or.inr h
  have hS : va_S A s.heap s.heap [] := va_S.rf
  have hP : va_P (dC, dI) vwCl [(oa, .inl (cI, 600, .inl fa))] s.heap := hP
  have hl := lv_entry ([.ref oa, .int p0]) (n := 4) (Nat.le_of_ble_eq_true rfl)
  rw [lg_entry_eq]
  generalize (lg_sl ([.ref oa, .int p0]) ++ List.replicate (4 - (lg_sl ([.ref oa, .int p0])).length) Slot.unset).toArray = ls at hl ⊢
  have hl : lv_has ls 4 [(0, .ref oa), (1, .int p0)] := hl
  refine lv_iconst (v := 0) hx hb dJ7_fill_0 (by decide) ?_
  refine lv_istore_n (lv' := [(2, .int 0), (0, .ref oa), (1, .int p0)]) hx hb dJ7_fill_1 rfl hl (by decide) rfl (fun ls hl => ?_)
  refine lv_aload_n hx hb dJ7_fill_2 rfl (lv_at hl 1 rfl) ?_
  refine va_alen (v := 600) hx hb hK hP 0 0 rfl rfl rfl dJ7_fill_3 ?_
  refine lv_istore_n (lv' := [(3, .int 600), (2, .int 0), (0, .ref oa), (1, .int p0)]) hx hb dJ7_fill_4 rfl hl (by decide) rfl (fun ls hl => ?_)
  exact kJ7_fill_5 hx hb hr hml hown hts hlocks hA hZ hK big fa p0 0 600 (fuel_of (by rw [big_eq]; decide) (by rw [big_eq]; decide)) rfl (by decide) (plJ7_fill_0 fa p0) _ _ (hP.sub (ws' := [(oa, .inl (cI, 600, .inl fa))]) [0] rfl) (hD.sub (ws' := [(oa, .inl (cI, 600, .inl fa))]) [0] (by decide) rfl) hS ls (lv_sub hl [2, 3, 1, 0] rfl)
noncomputable def FX0_empty (lf : Int32) (rs : Rw) : Rw :=
  let u_2 := FJ7_fill rs.1 0
  (u_2, 0)
set_option maxRecDepth 100000 in
theorem plX0_empty_0 (lf : Int32) (rs : Rw) (u_2 : (Nat → Int32)) (hw_1 : u_2 = FJ7_fill rs.1 0) : (u_2, 0) = FX0_empty lf rs := by
  subst hw_1
  exact rfl
set_option maxHeartbeats 4000000 in
set_option maxRecDepth 100000 in
theorem mX0_empty (l : Launch) (dC : Nat → ClassId) (dI : Nat → Nat → Nat) (cI : ClassId) (o oa : Nat) (sz : Nat) (lf : Int32) (rs : Rw) : Met l yX0_empty (Cond.code yX0_empty cX0_empty 1 none :: G) ({ frames := 1, cells := 0, slots := 0, locals := 23 } : Room) (va_Pc [.ref o] (fun U => U.heap.size = sz ∧ va_P (dC, dI) vwCl [(o, .inr (0, [.int lf, .ref oa, .int rs.2])), (oa, .inl (cI, 600, .inl rs.1))] U.heap ∧ va_K (dC, dI) vwCl [(cI, .int)] U ∧ va_D (fun _ => True) [(o, .inr (0, [.int lf, .ref oa, .int rs.2])), (oa, .inl (cI, 600, .inl rs.1))] ∧ zOk U)) (va_Qv (fun (u : Rw) => u = (FX0_empty lf rs)) (fun (u : Rw) (t : State) => va_P (dC, dI) vwCl [(o, .inr (0, [.int lf, .ref oa, .int u.2])), (oa, .inl (cI, 600, .inl u.1))] t.heap ∧ va_D (va_A [(o, .inr (0, [.int lf, .ref oa, .int rs.2])), (oa, .inl (cI, 600, .inl rs.1))] sz) [(o, .inr (0, [.int lf, .ref oa, .int u.2])), (oa, .inl (cI, 600, .inl u.1))]) (va_A [(o, .inr (0, [.int lf, .ref oa, .int rs.2])), (oa, .inl (cI, 600, .inl rs.1))] sz)) 0 0 (va_A [(o, .inr (0, [.int lf, .ref oa, .int rs.2])), (oa, .inl (cI, 600, .inl rs.1))] sz) := by
  refine Met.ofW (cc := cX0_empty) (maxL := 1) (ret := none) (by decide) rfl ?_
  intro p e s m args below meth c s₁ B hml hv
  obtain ⟨rfl, hsz, hP, hK, hD0, hZ⟩ := hv
  have hx := B.exec
  have hb := B.bytes
  have hr := B.returns
  have hts : ∀ w ∈ G, w.before [.ref o].toArray s = true := fun w h => atoms_spec (ws := (Cond.code yX0_empty cX0_empty 1 none :: G)) B.pre w (List.mem_cons_of_mem _ h)
  have hown : s.vm.findClass RX0 = some m.cls := findClass_of_methodNamed B.named
  have hlocks := B.notSynchronized
  subst hsz
  have hD := hD0.self (sz := s.heap.size)
  generalize hAe : va_A [(o, .inr (0, [.int lf, .ref oa, .int rs.2])), (oa, .inl (cI, 600, .inl rs.1))] s.heap.size = A at hD ⊢
  have hA : ∀ q : Nat, s.heap.size ≤ q → A q := fun q h => by rw [← hAe]; exact Or.inr h
  have hS : va_S A s.heap s.heap [] := va_S.rf
  have hP : va_P (dC, dI) vwCl [(o, .inr (0, [.int lf, .ref oa, .int rs.2])), (oa, .inl (cI, 600, .inl rs.1))] s.heap := hP
  have hl := lv_entry ([.ref o]) (n := 1) (Nat.le_of_ble_eq_true rfl)
  rw [lg_entry_eq]
  generalize (lg_sl ([.ref o]) ++ List.replicate (1 - (lg_sl ([.ref o])).length) Slot.unset).toArray = ls at hl ⊢
  have hl : lv_has ls 1 [(0, .ref o)] := hl
  refine lv_aload_n hx hb dX0_empty_0 rfl (lv_at hl 0 rfl) ?_
  refine va_get (D := (dC, dI)) (ci := 0) (v := .ref oa) (C := RX0) (T := TX0) (N := 3) hx hb hts inGX0 hown hK hP 0 rfl rfl 1 (by decide) (hts _ wd60) (fun _ h9 => h9) rfl dX0_empty_1 ?_
  refine lv_iconst (v := 0) hx hb dX0_empty_4 (by decide) ?_
  have hPc := hP.sub (ws' := [(oa, .inl (cI, 600, .inl rs.1))]) [1] rfl
  have hKc := hK.sub (tys' := [(cI, .int)]) [0] rfl
  have hDc := hD.sub (ws' := [(oa, .inl (cI, 600, .inl rs.1))]) [1] (by decide) rfl
  have hFc := va_free (wc := [(oa, .inl (cI, 600, .inl rs.1))]) hD hS hA [1] rfl
  refine va_callv (va_runS (As := [.ref oa, .int 0]) (rest := []) ⟨hx, hb, hml, hown, hts⟩ (mJ7_fill l dC dI cI oa s.heap.size rs.1 0) (va_cwS 2 hts (gS wd188 wd189 wd38 wd190) rfl rfl rfl (by decide +kernel) ⟨Nat.le_of_ble_eq_true rfl, Nat.le_of_ble_eq_true rfl⟩) ⟨fb_rw, pre_rw hPc hKc hDc hZ⟩ rfl rfl hl.1 rfl (lv_room (Nat.le_of_ble_eq_true rfl)) dX0_empty_5 ⟨Nat.le_of_ble_eq_true rfl, Nat.le_of_ble_eq_true rfl⟩) hS (fun q _ h => hFc q h) hFc (fun u_2 t H1 locs ht hvm hw_1 hB hz1 hk1 hS => ?_)
  obtain ⟨hP1, hD1⟩ := hB
  rw [ht] at hP1
  obtain ⟨hP, hD⟩ := va_join (wr := [(o, .inr (0, [.int lf, .ref oa, .int rs.2]))]) (w1 := [(oa, .inl (cI, 600, .inl u_2))]) hP hD [1] [0] rfl rfl (by decide) (by decide) hk1 hFc hP1 hD1
  generalize H1 = H at hP hS ⊢
  have hP : va_P (dC, dI) vwCl [(o, .inr (0, [.int lf, .ref oa, .int rs.2])), (oa, .inl (cI, 600, .inl u_2))] H := hP
  have hD : va_D A [(o, .inr (0, [.int lf, .ref oa, .int rs.2])), (oa, .inl (cI, 600, .inl u_2))] := hD
  refine lv_aload_n hx hb dX0_empty_8 rfl (lv_at hl 0 rfl) ?_
  refine lv_iconst (v := 0) hx hb dX0_empty_9 (by decide) ?_
  refine va_put (D := (dC, dI)) (ci := 0) (v := .int 0) (ty := .int) (C := RX0) (T := TX0) (N := 3) hx hb hts inGX0 tyX0 tyX0_ok nmX0 hown hK hP hD hS 0 rfl rfl 2 (by decide) (hts _ wd61) (fun _ h9 => h9) rfl (by decide +kernel) rfl rfl (Nat.le_of_ble_eq_true rfl) dX0_empty_10 (fun H locs hP hD hS => ?_)
  have hP : va_P (dC, dI) vwCl [(o, .inr (0, [.int lf, .ref oa, .int 0])), (oa, .inl (cI, 600, .inl u_2))] H := hP
  have hD : va_D A [(o, .inr (0, [.int lf, .ref oa, .int 0])), (oa, .inl (cI, 600, .inl u_2))] := hD
  have hP9 := hP.sub (ws' := [(o, .inr (0, [.int lf, .ref oa, .int 0])), (oa, .inl (cI, 600, .inl u_2))]) [0, 1] rfl
  have hD9 := hD.sub (ws' := [(o, .inr (0, [.int lf, .ref oa, .int 0])), (oa, .inl (cI, 600, .inl u_2))]) [0, 1] (by decide) rfl
  exact W.vret hx hb hr (fun t ht hW => ⟨⟨(u_2, 0), rfl, (plX0_empty_0 lf rs _ hw_1), by rw [ht]; exact hP9, hD9⟩, hS.F ht⟩) hS.2.2 dX0_empty_13
