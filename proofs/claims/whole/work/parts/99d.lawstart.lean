/-- what holds at the law's entry: the machine, the code, the tables' words (any of lw_tbl by 'hts w (by decide +kernel)'), the script of L ints xs at the cell b, what the Statement gives of the start (any of its parts by flat_of_before) -/
def lw_At (p : Program) (s : State) (m : MethodId) (meth : Method) (c : Code) (b L : Nat) (xs : Nat → Int32) : Prop :=
  p.tables.exec = Jvm.exec ∧ c.code = code ∧ meth.sig.returnType = ret ∧ c.maxLocals = 4 ∧ s.vm.findClass R_law = some m.cls ∧ (∀ w ∈ lw_tbl, w.before #[Value.ref b] s = true) ∧ va_X b L xs s s.heap ∧ b < s.heap.size ∧ meth.locks = false ∧ meth.name = x.name ∧ (Jvm.Cond.and given_1 narrow_1).before #[Value.ref b] s = true
theorem kn_of {s : State} {A : Array Value} (hG : ∀ w ∈ xa_G, w.before A s = true) {own : String} {idx ci : Nat} (h : xa_NC own idx ci) : ∃ (c0 : ClassId) (iS : Nat → Nat), ∀ q : vw_C, xa_cl[ci]? = some q → u_Kn s q.1 q.2.1 q.2.2 c0 iS := by
  obtain ⟨Cn, T, N, ty0, e1, e2, h3, h4, h5, h6, h7, h8⟩ := h
  obtain ⟨c0, iS, hK⟩ := u_known hG h3 (hG _ h7)
  exact ⟨c0, iS, fun q hq => by rw [e1] at hq; cases hq; exact hK⟩
theorem whole_start {p : Program} {e : Env} {s : State} {m : MethodId} {below : List Frame} {meth : Method} {c : Code} (l : Launch) {b L : Nat} {xs : Nat → Int32} (hL : L ≤ 3072) (C0 : lw_At p s m meth c b L xs) : W p l e room_1 s m #[Value.ref b] below meth c s.heap [] 0 0 (lw_Z below #[Value.ref b] s) (entryFrame m ([Value.ref b] : List Value).toArray 4) := by
  obtain ⟨hx, hb, hr, hml, hown, hts, hX, hbl, hlocks, hnm, hgv⟩ := id C0
  have hG : ∀ w ∈ xa_G, w.before #[Value.ref b] s = true := fun w hw => hts w (List.mem_filter.mp hw).1
  obtain ⟨cC0, iC0, kC0⟩ := kn_of hG lnX3_25
  obtain ⟨cC1, iC1, kC1⟩ := kn_of hG lnX3_18
  obtain ⟨cC2, iC2, kC2⟩ := kn_of hG lnX7_150
  obtain ⟨cC3, iC3, kC3⟩ := kn_of hG lnX7_9
  obtain ⟨cC4, iC4, kC4⟩ := kn_of hG lnX3_36
  obtain ⟨cC5, iC5, kC5⟩ := kn_of hG lnX7_15
  obtain ⟨cC6, iC6, kC6⟩ := kn_of hG lnX3_9
  obtain ⟨cC7, iC7, kC7⟩ := kn_of hG lnL_7
  obtain ⟨cC8, iC8, kC8⟩ := kn_of hG lnL_10
  obtain ⟨dC, dI, hKc⟩ : ∃ (dC : Nat → ClassId) (dI : Nat → Nat → Nat), ∀ (k : Nat) (q : vw_C), xa_cl[k]? = some q → u_Kn s q.1 q.2.1 q.2.2 (dC k) (dI k) := by
    refine ⟨fun k => if k = 0 then cC0 else if k = 1 then cC1 else if k = 2 then cC2 else if k = 3 then cC3 else if k = 4 then cC4 else if k = 5 then cC5 else if k = 6 then cC6 else if k = 7 then cC7 else cC8, fun k => if k = 0 then iC0 else if k = 1 then iC1 else if k = 2 then iC2 else if k = 3 then iC3 else if k = 4 then iC4 else if k = 5 then iC5 else if k = 6 then iC6 else if k = 7 then iC7 else iC8, ?_⟩
    intro k q hq
    match k, hq with
    | 0, hq => exact kC0 q hq
    | 1, hq => exact kC1 q hq
    | 2, hq => exact kC2 q hq
    | 3, hq => exact kC3 q hq
    | 4, hq => exact kC4 q hq
    | 5, hq => exact kC5 q hq
    | 6, hq => exact kC6 q hq
    | 7, hq => exact kC7 q hq
    | 8, hq => exact kC8 q hq
    | k + 9, hq => simp [xa_cl] at hq
  obtain ⟨c9, kA9, comp9, a91, a92, a93⟩ := Cond.arrayClass_spec (hG _ la_int)
  obtain ⟨c10, kA10, comp10, b91, b92, b93⟩ := Cond.arrayClass_spec (hG _ la_bool)
  have o11 := hts (Cond.arrayOver (.object "WhoIsThere$Host")) (by decide +kernel)
  have o12 := hts (Cond.arrayOver (.object "WhoIsThere$Service")) (by decide +kernel)
  obtain ⟨comp11, c11, kA11, d1, d2, d3, d4, d5⟩ := Cond.arrayOver_spec o11
  obtain ⟨comp12, c12, kA12, f1, f2, f3, f4, f5⟩ := Cond.arrayOver_spec o12
  obtain ⟨dA, hA⟩ : ∃ dA : Nat → ClassId, dA = fun k => if k = 9 then c9 else if k = 10 then c10 else if k = 11 then c11 else c12 := ⟨_, rfl⟩
  have g9 : dA 9 = c9 := by rw [hA]; rfl
  have g10 : dA 10 = c10 := by rw [hA]; rfl
  have g11 : dA 11 = c11 := by rw [hA]; rfl
  have g12 : dA 12 = c12 := by rw [hA]; rfl
  have hK : xa_K (l, (dC, dI), dA) s := by
    refine ⟨⟨hKc, fun k q hq => ?_⟩, fun w hw => ?_, va_AO.of o11, va_AO.of o12⟩
    · match k, hq with
      | 0, hq => cases hq; show ArrOfT s (dA 9) _ ∧ va_RA s (dA 9) _; rw [g9]; exact ⟨fun n z => ⟨fun k h => (by cases h), kA9, a92, comp9, a93⟩, a91⟩
      | 1, hq => cases hq; show ArrOfT s (dA 10) _ ∧ va_RA s (dA 10) _; rw [g10]; exact ⟨fun n z => ⟨fun k h => (by cases h), kA10, b92, comp10, b93⟩, b91⟩
      | 2, hq => cases hq; show ArrOfT s (dA 11) _ ∧ va_RA s (dA 11) _; rw [g11]; exact ⟨fun n z => ⟨fun k h => (by cases h), kA11, d3, comp11, d4⟩, kA11, comp11, d3, d4, d1, d5⟩
      | 3, hq => cases hq; show ArrOfT s (dA 12) _ ∧ va_RA s (dA 12) _; rw [g12]; exact ⟨fun n z => ⟨fun k h => (by cases h), kA12, f3, comp12, f4⟩, kA12, comp12, f3, f4, f1, f5⟩
      | k + 4, hq => simp [xa_tys] at hq
    · obtain ⟨a, i, x0, b0, rfl⟩ := xa_nest_is hw
      exact va_Nw.of rfl (hts _ (List.mem_append_right _ (List.mem_filter.mp hw).1))
  have h0 : entryFrame m ([Value.ref 191].map (xa_cv (fun _ => b))).toArray 4 = _ := lg_entry_eq m ([Value.ref 191].map (xa_cv (fun _ => b))) 4
  show W p l e room_1 s m #[Value.ref b] below meth c s.heap [] 0 0 (lw_Z below #[Value.ref b] s) (entryFrame m ([Value.ref 191].map (xa_cv (fun _ => b))).toArray 4)
  rw [h0]
  exact lw_entry (l, (dC, dI), dA) (b := b) (Ls := L) (xs := xs) hL p e s m #[Value.ref b] below meth c (fun _ => b) (fun _ => b) s.heap [] 0 0 _ ⟨hx, hb, hr, hml, hown, hG, hlocks, hnm, hK, rfl, hX, hbl⟩ (fun _ _ => rfl) (fun k q h => by simp [xa_wd] at h) ⟨fun i j x y h => by simp [xa_wd] at h, fun k q h => by simp [xa_wd] at h⟩ va_S.rf (xa_entry (as := [Value.ref 191]) (nL := 4) (fun _ => b) (by decide) (by simp [Value.category]) rfl) (by decide) (by decide)
set_option maxHeartbeats 4000000 in
theorem lw_walk (l : Launch) (b : Addr) (xs : List Int32) : MetFree l x (headSpec (Jvm.Cond.code x code maxLocals ret :: tables_1) room_1) (lw_P b xs) (fun _ _ _ _ _ => True) lw_Q := by
  refine MetFree.of_bodyS (code := code) (maxLocals := maxLocals) (ret := ret) (by decide) ?_ ?_
  · intro args s m h hn
    obtain ⟨meth, c, h1, h2, h3, h4, h5, h6, -, -⟩ := Cond.code_spec hn (atoms_spec (ws := Jvm.Cond.code x code maxLocals ret :: tables_1) h _ List.mem_cons_self)
    exact ⟨meth, c, h1, h2, h3, h4, h5, h6⟩
  · intro p e s m args below meth c s₁ B hml0 hP _
    obtain ⟨rfl, hx, hbd, hgv⟩ := hP
    obtain ⟨scr, harrAt, hlist, hof, hsmall⟩ := hx
    obtain ⟨hcb, hkn, -, -⟩ := State.arrayAt?_spec harrAt
    have hown : s.vm.findClass R_law = some m.cls := findClass_of_methodNamed B.named
    have hts0 : ∀ c ∈ (Jvm.Cond.code x code maxLocals ret :: tables_1), c.before #[Value.ref b] s = true := atoms_spec (ws := Jvm.Cond.code x code maxLocals ret :: tables_1) B.pre
    have hts : ∀ w ∈ lw_tbl, w.before #[Value.ref b] s = true := k2_hts_sels lw_privs (fun w hw => hts0 w (List.mem_cons_of_mem _ hw)) lw_privs_ok
    have hml : c.maxLocals = 4 := B.maxLocals_eq (hts0 _ List.mem_cons_self)
    have X₀ : Stand p l e room_1 s m #[Value.ref b] below meth c s₁ [] 0 0 := Stand.of_body B
    have hh0 : s₁.heap = s.heap := by rw [B.state]; rfl
    have hsz : scr.slots.size = xs.length := by rw [← Array.length_toList, hlist, List.length_map]
    have hval : ∀ j : Nat, j < xs.length → scr.slots[j]? = some (.int (xs.getD j 0)) := fun j hj => by
      rw [← Array.getElem?_toList, hlist]
      simp [hj]
    have hbl : b < s.heap.size := (Array.getElem?_eq_some_iff.mp hcb).1
    have hX : va_X b xs.length (fun j => xs.getD j 0) s s.heap := ⟨scr, hcb, hof, hkn, hsz, hval⟩
    have K : W p l e room_1 s m #[Value.ref b] below meth c s₁.heap [] 0 0 (lw_Z below #[Value.ref b] s) (entryFrame m ([Value.ref b] : List Value).toArray 4) := by
      rw [hh0]
      exact whole_start l hbd ⟨B.exec, B.bytes, B.returns, hml, hown, hts, hX, hbl, B.notSynchronized, (name_of_methodNamed B.named B.method).1, hgv⟩
    obtain ⟨t, a1, o, b1, b2, b3⟩ := K s₁ rfl X₀
    exact ⟨t, o, a1, b1, b2, b3⟩
theorem lw_pre_spec {args : Array Value} {s : State} (h : (Jvm.Cond.and given_1 narrow_1).before args s = true) (hr : rest_1_c.before args s = true) : ∃ (b : Addr) (xs : List Int32), lw_P b xs args s := by
  have hs := flat_of_before _ h
  have hq := flat_of_before _ hr
  have hc : (Cond.count 1).before args s = true := hs _ (by decide +kernel)
  have harr : (Cond.arrayOf (.arg 0) .int).before args s = true := hs _ (by decide +kernel)
  have hle : (Cond.le (.length (.arg 0)) (.int 3072)).before args s = true := hs _ (by decide +kernel)
  have hlen : (Cond.isInt (.length (.arg 0))).before args s = true := hq _ (by decide +kernel)
  have hall : (Cond.all (.arg 0) (.isInt (.elem (.arg 0) (.index 0)))).before args s = true := hq _ (by decide +kernel)
  obtain ⟨b, xs, hb, hx⟩ := State.ints_of_pre rfl harr hlen hall
  have hsm : xs.length < 2 ^ 31 := hx.choose_spec.2.2.2
  have hev : (Term.length (.arg 0)).eval args s none [] s = some (.int xs.length.toInt32) := hx.length_eval hb
  have hv := Cond.le_ints hev (show (Term.int 3072).eval args s none [] s = some (.int 3072) from rfl)
  have hd : xs.length.toInt32 ≤ 3072 := by
    simpa [Cond.before, Cond.holds, hv] using hle
  have hN : xs.length ≤ 3072 := (Int32.ofNat_le_ofNat hsm (by decide)).mp (show Int32.ofNat xs.length ≤ Int32.ofNat 3072 from hd)
  exact ⟨b, xs, Cond.one_arg hc (show args[0]? = some (.ref b) from hb), hx, hN, h⟩
theorem lw_comes (l : Launch) : Comes l x (Jvm.Cond.code x code maxLocals ret :: tables_1) room_1 (fun tb e args s => Calls_1 tb e args s ∧ rest_1 tb e args s ∧ Pre_1 tb e args s)
    (fun _ _ args s o t => lw_Q args s o t) := by
  intro p e ha hc hk s m args below hf hfit hheap happ hpre
  obtain ⟨b, xs, hP⟩ := lw_pre_spec hpre.2.2 hpre.2.1
  obtain ⟨k, o, h1, h2, h3, hQ⟩ := lw_walk l b xs p e ha hc hk s m args below hf ((Spec.applies_iff_loose hf).mp happ).1 hP trivial
  exact ⟨k, o, h1, h2, h3, hQ⟩
theorem lw_frame {s t : State} {o : Outcome} {args : Array Value} (h : Framed s o t [] 600000 7302250) :
    Framed s o t (fieldLocs frame_1_writes args s ++ arrayLocs frame_1_arrays args s ++ staticLocs frame_1_statics s) 600000 7302250 := h
theorem lw_limb (L : Cond) (hL : ∀ (args : Array Value) (s t : State), L.after args s (.returned (some (.int 1))) t = true) :
    ArmFor flags0 classFile x code maxLocals ret World_1 tables_1 room_1 Calls_1 rest_1 Pre_1
      (fun tb e a s o t => postC L tb e a s o t ∧ Framed s o t (fieldLocs frame_1_writes a s ++ arrayLocs frame_1_arrays a s ++ staticLocs frame_1_statics s) 600000 7302250) := by
  intro l _ _ _ p e ha hc hk s m args below hf hfit hheap happ hpre
  obtain ⟨k, o, h1, h2, h3, rfl, hF⟩ := lw_comes l p e ha hc hk s m args below hf hfit hheap happ hpre
  exact ⟨k, _, h1, h2, h3, hL args s _, lw_frame hF⟩
theorem i_vc : Claimed_1_1 ∧ Claimed_1_2 := ⟨lw_limb limb_1_1 (fun args s t => by simp [limb_1_1, Cond.after, Cond.holds, Cond.value]), lw_limb limb_1_2 (fun args s t => Cond.after_iff.mpr (by
  first | (rw [show limb_1_2 = Cond.eq .result (.int 1) from rfl, Cond.eq_ints (x := 1) (y := 1) rfl rfl]; simp; done) | (simp [limb_1_2, Cond.value, Term.eval]; done)))⟩
