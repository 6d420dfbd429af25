/-! what the launch gives -/
def cs_txts : List (Nat × String) := [(30, "width is out of range"), (159, "not a number with w bits"), (41, "there are 6 models already"), (147, "no such model"), (149, "no such row"), (155, "not a byte"), (153, "the row would have more than 256 bytes"), (151, "no such index"), (103, "from or to is out of range")]
theorem cs_txA : ∀ q ∈ cs_txts, Cond.stringRef RX1 q.1 q.2 ∈ lw_tbl := by decide +kernel
theorem cs_txB : ∀ q ∈ cs_txts, Cond.exactly (.string RX1 q.1) "java/lang/String" ∈ flatC (Jvm.Cond.and given_1 narrow_1) := by decide +kernel
set_option maxHeartbeats 4000000 in
set_option maxRecDepth 100000 in
theorem cs_start {p : Program} {s : State} {m : MethodId} {c : Code} {l : Launch} (hflags : l.flags = flags0) {b L : Nat} {xs : Nat → Int32} (hL : L ≤ 260) (hx : p.tables.exec = Jvm.exec) (hb : c.code = code) (hml : c.maxLocals = 14) (hown : s.vm.findClass RL = some m.cls) (hts : ∀ w ∈ lw_tbl, w.before #[Value.ref b] s = true) (hX : va_X b L xs s s.heap) (hbl : b < s.heap.size) (hgv : (Jvm.Cond.and given_1 narrow_1).before #[Value.ref b] s = true) :
    ∃ (D : va_G) (cy : Nat → ClassId), cs_C p l s m c b L xs D cy ∧ (va_AO RX0 s ∧ va_AOA .int s) := by
  have hg := flat_of_before _ hgv
  have hlf : l.stackTraces = false := by unfold Launch.stackTraces; rw [hflags]; decide +kernel
  have htl : ∀ w ∈ wsL_law, w.before #[Value.ref b] s = true := fun w h => hts w (wsL_law_in w h)
  obtain ⟨k0, i0, hKn0⟩ := u_known (C := RX0) (T := TX0) (N := 8) (n := 8) hts inX0 (hts (.instantiable RX0 8) (by decide +kernel))
  obtain ⟨k1, i1, hKn1⟩ := u_known (C := RX1) (T := TX1) (N := 4) (n := 4) hts inX1 (hts (.instantiable RX1 4) (by decide +kernel))
  obtain ⟨dC, dI, hKc⟩ : ∃ (dC : Nat → ClassId) (dI : Nat → Nat → Nat), ∀ (k : Nat) (q : vw_C), vwCl[k]? = some q → u_Kn s q.1 q.2.1 q.2.2 (dC k) (dI k) := by
    refine ⟨fun k => if k = 0 then k0 else k1, fun k => if k = 0 then i0 else i1, ?_⟩
    intro k q hq
    match k, hq with
    | 0, hq => cases hq; exact hKn0
    | 1, hq => cases hq; exact hKn1
    | k + 2, hq => simp at hq
  obtain ⟨c0, h0, p0, a0, b0, d0⟩ := Cond.arrayClass_spec (hts (.arrayClass .int) (by decide +kernel))
  have hO : (Cond.arrayOver (.object RX0)).before #[Value.ref b] s = true := hts _ (by decide +kernel)
  have hI : (Cond.arrayOver (.array .int)).before #[Value.ref b] s = true := hts _ (by decide +kernel)
  obtain ⟨p3, c3, h3, a3, f3, b3, d3, g3⟩ := Cond.arrayOver_spec hO
  obtain ⟨p4, c4, h4, a4, f4, b4, d4, g4⟩ := cs_aoa hI
  have hK : va_K (dC, dI) vwCl (cs_tys (fun k => if k = 0 then c0 else if k = 3 then c3 else c4)) s := ⟨hKc, fun k q hq => by
    match k, hq with
    | 0, hq => cases hq; exact ⟨fun n z => ⟨fun k h => (by cases h), h0, b0, p0, d0⟩, a0⟩
    | 1, hq => cases hq; exact ⟨fun n z => ⟨fun k h => (by cases h), h0, b0, p0, d0⟩, a0⟩
    | 2, hq => cases hq; exact ⟨fun n z => ⟨fun k h => (by cases h), h0, b0, p0, d0⟩, a0⟩
    | 3, hq => cases hq; exact ⟨fun n z => ⟨fun k h => (by cases h), h3, b3, p3, d3⟩, h3, p3, b3, d3, a3, g3⟩
    | 4, hq => cases hq; exact ⟨fun n z => ⟨fun k h => (by cases h), h4, b4, p4, d4⟩, g4⟩
    | k + 5, hq => simp at hq⟩
  have hE : cs_en s := ⟨va_Nw.of rfl (hts (.methodLinkNest RX0 51 yX1_reversed RX1) (by decide +kernel)), ⟨va_Nw.of rfl (hts (.castable cs_IAE cs_IAE) (by decide +kernel)), va_Nw.of rfl (hts (.castable cs_ISE cs_ISE) (by decide +kernel)), va_Nw.of rfl (hts (.castable cs_IOB cs_IOB) (by decide +kernel)), va_Nw.of rfl (hts (.declares (Bundle.initS "java/lang/RuntimeException")) (by decide +kernel)), va_Nw.of rfl (hts (.declares (Bundle.initS "java/lang/Exception")) (by decide +kernel)), va_Nw.of rfl (hts (.declares (Bundle.initS Bundle.tN)) (by decide +kernel))⟩, fun q hq => by
    obtain ⟨a, _, _, _, h, -⟩ := Cond.exactly_spec (hg _ (cs_txB q hq))
    exact ⟨a, vk_R.of (hts _ (cs_txA q hq)) h⟩⟩
  have hz : cs_zz (fun q => s.heap.size ≤ q) s s.heap :=
    ⟨vx_Zqof (hts (.laysStatic Bundle.tN "UNASSIGNED_STACK" Bundle.steD) (by decide +kernel)) (hts (.initialized Bundle.tN) (by decide +kernel)) (hg (.isRef (.static Bundle.tN "UNASSIGNED_STACK" Bundle.steD)) (by decide +kernel)) (fun a h => Nat.not_le.mpr h),
     vx_Zqof (hts (.laysStatic Bundle.tN "SUPPRESSED_SENTINEL" Bundle.listD) (by decide +kernel)) (hts (.initialized Bundle.tN) (by decide +kernel)) (hg (.isRef (.static Bundle.tN "SUPPRESSED_SENTINEL" Bundle.listD)) (by decide +kernel)) (fun a h => Nat.not_le.mpr h)⟩
  exact ⟨(dC, dI), _, ⟨hx, hb, hml, hlf, hown, htl, hX, hbl, hL, hE, hz, hK⟩, va_AO.of hO, hI⟩
