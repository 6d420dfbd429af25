section CSLC
variable {p : Program} {l : Launch} {e : Env} {s : State} {m : MethodId} {b : Nat} {below : List Frame} {meth : Method} {c : Code} {Q : State → Prop} {L : Nat} {xs : Nat → Int32} {D : va_G} {cy : Nat → ClassId}
set_option maxHeartbeats 4000000 in
set_option maxRecDepth 100000 in
theorem lw_c_appendSeries (hlf : l.stackTraces = false) (C0 : cs_C p l s m c b L xs D cy) {i a0 cells slots : Nat} {S : cs_St} {th : Int32} {ad bd : Nat → Nat} {o9 : Nat} {f : Nat → Int64} {H : Heap} {locs : List Loc} {ls : Array Slot} (hi : i + 7 ≤ L) (hc : cells + 5 ≤ 601024) (hs : slots + 32 ≤ 7293034) (hok : cs_okk S) (had : ad 0 = a0) (hLS : cs_LS D s H locs S th ad bd o9 f cy) (hl : lv_has ls 7 [(0, .ref b), (1, .ref a0), (2, .ref (bd 0)), (3, .ref o9), (4, .int (nI i))]) (kk : cs_KK p l e s m b below meth c Q D cy bd o9 a0 i (cells + 5) (slots + 32)) : W p l e room_1 s m #[.ref b] below meth c H locs cells slots Q (F0 m 687 ls []) := by
  have hS := hok.1
  have C1 := C0
  obtain ⟨hx, hb, hml, -, hown, hts, -, -, -, hE, hn, hz0, hK⟩ := C1
  subst had
  obtain ⟨hP, hD, hS9⟩ := hLS
  have hPl : va_P D vwCl (cs_O o9 f S ad cy) H := cs_PL hP
  have hDl : va_D (fun q => s.heap.size ≤ q) (cs_O o9 f S ad cy) := cs_DL hD
  have hF : ∀ q, va_A (cs_O o9 f S ad cy) H.size q → (fun q => s.heap.size ≤ q) q := cs_inL hD hS9 (fun _ h => h)
  have hz : cs_zz (va_A (cs_O o9 f S ad cy) H.size) s H := (hz0.kept (fun a h1 h2 => hS9.2.1 a h1 h2)).narrow hF
  refine lv_aload_n hx hb dL_law_687 rfl (lv_at hl 1 rfl) ?_
  refine cs_rd C0 hS9 hl 0 4 rfl rfl 1 (jj := 1) hi (by decide) (by decide) dL_law_688 dL_law_689 dL_law_691 dL_law_692 dL_law_693 ?_
  refine cs_rd C0 hS9 hl 0 4 rfl rfl 2 (jj := 2) hi (by decide) (by decide) dL_law_694 dL_law_695 dL_law_697 dL_law_698 dL_law_699 ?_
  refine cs_rd C0 hS9 hl 0 4 rfl rfl 3 (jj := 3) hi (by decide) (by decide) dL_law_700 dL_law_701 dL_law_703 dL_law_704 dL_law_705 ?_
  refine cs_rd C0 hS9 hl 0 4 rfl rfl 4 (jj := 4) hi (by decide) (by decide) dL_law_706 dL_law_707 dL_law_709 dL_law_710 dL_law_711 ?_
  refine lv_aload_n hx hb dL_law_712 rfl (lv_at hl 3 rfl) ?_
  refine cs_wcalli (vx_runSW (As := [.ref (ad 0), .int (xs (i + 1)), .int (xs (i + 2)), .int (xs (i + 3)), .int (xs (i + 4)), .ref o9]) (rest := []) ⟨hx, hb, hml, hown, hts⟩ (k_L_appendSeries l hlf D S ad cy o9 f H.size hS (xs (i + 1)) (xs (i + 2)) (xs (i + 3)) (xs (i + 4))) (vx_cwSW 6 hts gL_law_L_appendSeries rfl rfl rfl (by decide +kernel) ⟨(Nat.le_of_ble_eq_true rfl), (Nat.le_of_ble_eq_true rfl)⟩) ⟨cs_Bl.blind, cs_Bl.at hn hE hz hPl hK hDl⟩ rfl rfl hl.1 rfl (lv_room (Nat.le_of_ble_eq_true rfl)) dL_law_713 ⟨by show cells + 5 ≤ 601024; omega, by show slots + 30 ≤ 7293034; omega⟩) hS9 hF (fun r9 u9 H locs hp hP1 hD1 hz1 hk1 hS9 => ?_)
  obtain ⟨rfl, hv⟩ := hp
  obtain ⟨hP, hD⟩ := cs_joinL hP hD hk1 hF hP1 hD1
  refine lv_istore (lv' := [(5, .int (cs_kSer S (xs (i + 1)) (xs (i + 2)) (xs (i + 3)) (xs (i + 4)))), (0, .ref b), (1, .ref (ad 0)), (2, .ref (bd 0)), (3, .ref o9), (4, .int (nI i))]) hx hb dL_law_716 hl (by decide) rfl (fun ls hl => ?_)
  refine lv_aload_n hx hb dL_law_718 rfl (lv_at hl 3 rfl) ?_
  refine cs_rd C0 hS9 hl 1 5 rfl rfl 1 (jj := 1) hi (by decide) (by decide) dL_law_719 dL_law_720 dL_law_722 dL_law_723 dL_law_724 ?_
  refine cs_rd C0 hS9 hl 1 5 rfl rfl 2 (jj := 2) hi (by decide) (by decide) dL_law_725 dL_law_726 dL_law_728 dL_law_729 dL_law_730 ?_
  refine cs_rd C0 hS9 hl 1 5 rfl rfl 3 (jj := 3) hi (by decide) (by decide) dL_law_731 dL_law_732 dL_law_734 dL_law_735 dL_law_736 ?_
  refine cs_rd C0 hS9 hl 1 5 rfl rfl 4 (jj := 4) hi (by decide) (by decide) dL_law_737 dL_law_738 dL_law_740 dL_law_741 dL_law_742 ?_
  have hPR := cs_PR hP
  have hDR := cs_DR hD
  have hF2 : ∀ q, va_A (cs_R S th bd cy) H.size q → (fun q => s.heap.size ≤ q) q := cs_inR hD hS9 (fun _ h => h)
  refine cs_wcalli (va_runV (As := [.int (xs (i + 1)), .int (xs (i + 2)), .int (xs (i + 3)), .int (xs (i + 4))]) (rest := []) ⟨hx, hb, hml, hown, hts⟩ (k_X2_appendSeries l D S th bd cy H.size hS (xs (i + 1)) (xs (i + 2)) (xs (i + 3)) (xs (i + 4))) (cwV 4 hts gL_law_X2_appendSeries rfl rfl rfl (by decide +kernel) ⟨(Nat.le_of_ble_eq_true rfl), (Nat.le_of_ble_eq_true rfl)⟩) ⟨cs_Bw.blind, va_recv hK hPR (ci := 2) (q0 := 0) rfl rfl, cs_Bw.at hE hPR hK hDR⟩ rfl rfl hl.1 rfl (lv_room (Nat.le_of_ble_eq_true rfl)) dL_law_743 ⟨by show cells + 5 + 0 ≤ 601024; omega, by show slots + 30 + 0 ≤ 7293034; omega⟩) hS9 hF2 (fun r8 u8 H locs hp hP1 hD1 hz1 hk1 hS9 => ?_)
  obtain ⟨hP, hD⟩ := cs_joinR hP hD hk1 hF2 hP1 hD1
  refine lv_istore (lv' := [(6, .int r8), (5, .int (cs_kSer S (xs (i + 1)) (xs (i + 2)) (xs (i + 3)) (xs (i + 4)))), (0, .ref b), (1, .ref (ad 0)), (2, .ref (bd 0)), (3, .ref o9), (4, .int (nI i))]) hx hb dL_law_746 hl (by decide) rfl (fun ls hl => ?_)
  refine cs_tl C0 hP hl (fun h => by rw [hv h, hp h]) (by omega) (by omega) dL_law_748 dL_law_749 dL_law_752 dL_law_754 dL_law_759 dL_law_761 dL_law_764 dL_law_765 dL_law_766 dL_law_767 dL_law_769 dL_law_770 dL_law_771 dL_law_776 (by decide) ?_
  refine W.widen (k := cells + 5) (n := slots + 32) (by omega) (by omega) ?_
  exact kk (cs_sSer S (xs (i + 1)) (xs (i + 2)) (xs (i + 3)) (xs (i + 4))) (cs_kSer S (xs (i + 1)) (xs (i + 2)) (xs (i + 3)) (xs (i + 4))) ad u9 H locs ls (cs_okk_ser hok (xs (i + 1)) (xs (i + 2)) (xs (i + 3)) (xs (i + 4))) rfl ⟨hP, hD, hS9⟩ (lv_sub hl [2, 3, 4, 5, 6] rfl)
set_option maxHeartbeats 4000000 in
set_option maxRecDepth 100000 in
theorem lw_c_appendRow (hlf : l.stackTraces = false) (C0 : cs_C p l s m c b L xs D cy) {i a0 cells slots : Nat} {S : cs_St} {th : Int32} {ad bd : Nat → Nat} {o9 : Nat} {f : Nat → Int64} {H : Heap} {locs : List Loc} {ls : Array Slot} (hi : i + 7 ≤ L) (hc : cells + 5 ≤ 601024) (hs : slots + 32 ≤ 7293034) (hok : cs_okk S) (had : ad 0 = a0) (hLS : cs_LS D s H locs S th ad bd o9 f cy) (hl : lv_has ls 7 [(0, .ref b), (1, .ref a0), (2, .ref (bd 0)), (3, .ref o9), (4, .int (nI i))]) (kk : cs_KK p l e s m b below meth c Q D cy bd o9 a0 i (cells + 5) (slots + 32)) : W p l e room_1 s m #[.ref b] below meth c H locs cells slots Q (F0 m 779 ls []) := by
  have hS := hok.1
  have C1 := C0
  obtain ⟨hx, hb, hml, -, hown, hts, -, -, -, hE, hn, hz0, hK⟩ := C1
  subst had
  obtain ⟨hP, hD, hS9⟩ := hLS
  have hPl : va_P D vwCl (cs_O o9 f S ad cy) H := cs_PL hP
  have hDl : va_D (fun q => s.heap.size ≤ q) (cs_O o9 f S ad cy) := cs_DL hD
  have hF : ∀ q, va_A (cs_O o9 f S ad cy) H.size q → (fun q => s.heap.size ≤ q) q := cs_inL hD hS9 (fun _ h => h)
  have hz : cs_zz (va_A (cs_O o9 f S ad cy) H.size) s H := (hz0.kept (fun a h1 h2 => hS9.2.1 a h1 h2)).narrow hF
  refine lv_aload_n hx hb dL_law_779 rfl (lv_at hl 1 rfl) ?_
  refine cs_rd C0 hS9 hl 0 4 rfl rfl 1 (jj := 1) hi (by decide) (by decide) dL_law_780 dL_law_781 dL_law_783 dL_law_784 dL_law_785 ?_
  refine cs_rd C0 hS9 hl 0 4 rfl rfl 2 (jj := 2) hi (by decide) (by decide) dL_law_786 dL_law_787 dL_law_789 dL_law_790 dL_law_791 ?_
  refine lv_aload_n hx hb dL_law_792 rfl (lv_at hl 3 rfl) ?_
  refine cs_wcalli (vx_runSW (As := [.ref (ad 0), .int (xs (i + 1)), .int (xs (i + 2)), .ref o9]) (rest := []) ⟨hx, hb, hml, hown, hts⟩ (k_L_appendRow l hlf D S ad cy o9 f H.size hS (xs (i + 1)) (xs (i + 2))) (vx_cwSW 4 hts gL_law_L_appendRow rfl rfl rfl (by decide +kernel) ⟨(Nat.le_of_ble_eq_true rfl), (Nat.le_of_ble_eq_true rfl)⟩) ⟨cs_Bl.blind, cs_Bl.at hn hE hz hPl hK hDl⟩ rfl rfl hl.1 rfl (lv_room (Nat.le_of_ble_eq_true rfl)) dL_law_793 ⟨by show cells + 3 ≤ 601024; omega, by show slots + 18 ≤ 7293034; omega⟩) hS9 hF (fun r9 u9 H locs hp hP1 hD1 hz1 hk1 hS9 => ?_)
  obtain ⟨rfl, hv⟩ := hp
  obtain ⟨hP, hD⟩ := cs_joinL hP hD hk1 hF hP1 hD1
  refine lv_istore (lv' := [(5, .int (cs_kRow S (xs (i + 1)) (xs (i + 2)))), (0, .ref b), (1, .ref (ad 0)), (2, .ref (bd 0)), (3, .ref o9), (4, .int (nI i))]) hx hb dL_law_796 hl (by decide) rfl (fun ls hl => ?_)
  refine lv_aload_n hx hb dL_law_798 rfl (lv_at hl 3 rfl) ?_
  refine cs_rd C0 hS9 hl 1 5 rfl rfl 1 (jj := 1) hi (by decide) (by decide) dL_law_799 dL_law_800 dL_law_802 dL_law_803 dL_law_804 ?_
  refine cs_rd C0 hS9 hl 1 5 rfl rfl 2 (jj := 2) hi (by decide) (by decide) dL_law_805 dL_law_806 dL_law_808 dL_law_809 dL_law_810 ?_
  have hPR := cs_PR hP
  have hDR := cs_DR hD
  have hF2 : ∀ q, va_A (cs_R S th bd cy) H.size q → (fun q => s.heap.size ≤ q) q := cs_inR hD hS9 (fun _ h => h)
  refine cs_wcalli (va_runV (As := [.int (xs (i + 1)), .int (xs (i + 2))]) (rest := []) ⟨hx, hb, hml, hown, hts⟩ (k_X2_appendRow l D S th bd cy H.size hS (xs (i + 1)) (xs (i + 2))) (cwV 2 hts gL_law_X2_appendRow rfl rfl rfl (by decide +kernel) ⟨(Nat.le_of_ble_eq_true rfl), (Nat.le_of_ble_eq_true rfl)⟩) ⟨cs_Bw.blind, va_recv hK hPR (ci := 2) (q0 := 0) rfl rfl, cs_Bw.at hE hPR hK hDR⟩ rfl rfl hl.1 rfl (lv_room (Nat.le_of_ble_eq_true rfl)) dL_law_811 ⟨by show cells + 3 + 0 ≤ 601024; omega, by show slots + 18 + 0 ≤ 7293034; omega⟩) hS9 hF2 (fun r8 u8 H locs hp hP1 hD1 hz1 hk1 hS9 => ?_)
  obtain ⟨hP, hD⟩ := cs_joinR hP hD hk1 hF2 hP1 hD1
  refine lv_istore (lv' := [(6, .int r8), (5, .int (cs_kRow S (xs (i + 1)) (xs (i + 2)))), (0, .ref b), (1, .ref (ad 0)), (2, .ref (bd 0)), (3, .ref o9), (4, .int (nI i))]) hx hb dL_law_814 hl (by decide) rfl (fun ls hl => ?_)
  refine cs_tl C0 hP hl (fun h => by rw [hv h, hp h]) (by omega) (by omega) dL_law_816 dL_law_817 dL_law_820 dL_law_822 dL_law_827 dL_law_829 dL_law_832 dL_law_833 dL_law_834 dL_law_835 dL_law_837 dL_law_838 dL_law_839 dL_law_844 (by decide) ?_
  refine W.widen (k := cells + 5) (n := slots + 32) (by omega) (by omega) ?_
  exact kk (cs_sRow S (xs (i + 1)) (xs (i + 2))) (cs_kRow S (xs (i + 1)) (xs (i + 2))) ad u9 H locs ls (cs_okk_row hok (xs (i + 1)) (xs (i + 2))) rfl ⟨hP, hD, hS9⟩ (lv_sub hl [2, 3, 4, 5, 6] rfl)
set_option maxHeartbeats 4000000 in
set_option maxRecDepth 100000 in
theorem lw_c_setByte (hlf : l.stackTraces = false) (C0 : cs_C p l s m c b L xs D cy) {i a0 cells slots : Nat} {S : cs_St} {th : Int32} {ad bd : Nat → Nat} {o9 : Nat} {f : Nat → Int64} {H : Heap} {locs : List Loc} {ls : Array Slot} (hi : i + 7 ≤ L) (hc : cells + 5 ≤ 601024) (hs : slots + 32 ≤ 7293034) (hok : cs_okk S) (had : ad 0 = a0) (hLS : cs_LS D s H locs S th ad bd o9 f cy) (hl : lv_has ls 7 [(0, .ref b), (1, .ref a0), (2, .ref (bd 0)), (3, .ref o9), (4, .int (nI i))]) (kk : cs_KK p l e s m b below meth c Q D cy bd o9 a0 i (cells + 5) (slots + 32)) : W p l e room_1 s m #[.ref b] below meth c H locs cells slots Q (F0 m 847 ls []) := by
  have hS := hok.1
  have C1 := C0
  obtain ⟨hx, hb, hml, -, hown, hts, -, -, -, hE, hn, hz0, hK⟩ := C1
  subst had
  obtain ⟨hP, hD, hS9⟩ := hLS
  have hPl : va_P D vwCl (cs_O o9 f S ad cy) H := cs_PL hP
  have hDl : va_D (fun q => s.heap.size ≤ q) (cs_O o9 f S ad cy) := cs_DL hD
  have hF : ∀ q, va_A (cs_O o9 f S ad cy) H.size q → (fun q => s.heap.size ≤ q) q := cs_inL hD hS9 (fun _ h => h)
  have hz : cs_zz (va_A (cs_O o9 f S ad cy) H.size) s H := (hz0.kept (fun a h1 h2 => hS9.2.1 a h1 h2)).narrow hF
  refine lv_aload_n hx hb dL_law_847 rfl (lv_at hl 1 rfl) ?_
  refine cs_rd C0 hS9 hl 0 4 rfl rfl 1 (jj := 1) hi (by decide) (by decide) dL_law_848 dL_law_849 dL_law_851 dL_law_852 dL_law_853 ?_
  refine cs_rd C0 hS9 hl 0 4 rfl rfl 2 (jj := 2) hi (by decide) (by decide) dL_law_854 dL_law_855 dL_law_857 dL_law_858 dL_law_859 ?_
  refine cs_rd C0 hS9 hl 0 4 rfl rfl 3 (jj := 3) hi (by decide) (by decide) dL_law_860 dL_law_861 dL_law_863 dL_law_864 dL_law_865 ?_
  refine lv_aload_n hx hb dL_law_866 rfl (lv_at hl 3 rfl) ?_
  refine cs_wcalli (vx_runSW (As := [.ref (ad 0), .int (xs (i + 1)), .int (xs (i + 2)), .int (xs (i + 3)), .ref o9]) (rest := []) ⟨hx, hb, hml, hown, hts⟩ (k_L_setByte l hlf D S ad cy o9 f H.size hS (xs (i + 1)) (xs (i + 2)) (xs (i + 3))) (vx_cwSW 5 hts gL_law_L_setByte rfl rfl rfl (by decide +kernel) ⟨(Nat.le_of_ble_eq_true rfl), (Nat.le_of_ble_eq_true rfl)⟩) ⟨cs_Bl.blind, cs_Bl.at hn hE hz hPl hK hDl⟩ rfl rfl hl.1 rfl (lv_room (Nat.le_of_ble_eq_true rfl)) dL_law_867 ⟨by show cells + 3 ≤ 601024; omega, by show slots + 18 ≤ 7293034; omega⟩) hS9 hF (fun r9 u9 H locs hp hP1 hD1 hz1 hk1 hS9 => ?_)
  obtain ⟨rfl, hv⟩ := hp
  obtain ⟨hP, hD⟩ := cs_joinL hP hD hk1 hF hP1 hD1
  refine lv_istore (lv' := [(5, .int (cs_kSet S (xs (i + 1)) (xs (i + 2)) (xs (i + 3)))), (0, .ref b), (1, .ref (ad 0)), (2, .ref (bd 0)), (3, .ref o9), (4, .int (nI i))]) hx hb dL_law_870 hl (by decide) rfl (fun ls hl => ?_)
  refine lv_aload_n hx hb dL_law_872 rfl (lv_at hl 3 rfl) ?_
  refine cs_rd C0 hS9 hl 1 5 rfl rfl 1 (jj := 1) hi (by decide) (by decide) dL_law_873 dL_law_874 dL_law_876 dL_law_877 dL_law_878 ?_
  refine cs_rd C0 hS9 hl 1 5 rfl rfl 2 (jj := 2) hi (by decide) (by decide) dL_law_879 dL_law_880 dL_law_882 dL_law_883 dL_law_884 ?_
  refine cs_rd C0 hS9 hl 1 5 rfl rfl 3 (jj := 3) hi (by decide) (by decide) dL_law_885 dL_law_886 dL_law_888 dL_law_889 dL_law_890 ?_
  have hPR := cs_PR hP
  have hDR := cs_DR hD
  have hF2 : ∀ q, va_A (cs_R S th bd cy) H.size q → (fun q => s.heap.size ≤ q) q := cs_inR hD hS9 (fun _ h => h)
  refine cs_wcalli (va_runV (As := [.int (xs (i + 1)), .int (xs (i + 2)), .int (xs (i + 3))]) (rest := []) ⟨hx, hb, hml, hown, hts⟩ (k_X2_setByte l D S th bd cy H.size hS (xs (i + 1)) (xs (i + 2)) (xs (i + 3))) (cwV 3 hts gL_law_X2_setByte rfl rfl rfl (by decide +kernel) ⟨(Nat.le_of_ble_eq_true rfl), (Nat.le_of_ble_eq_true rfl)⟩) ⟨cs_Bw.blind, va_recv hK hPR (ci := 2) (q0 := 0) rfl rfl, cs_Bw.at hE hPR hK hDR⟩ rfl rfl hl.1 rfl (lv_room (Nat.le_of_ble_eq_true rfl)) dL_law_891 ⟨by show cells + 3 + 0 ≤ 601024; omega, by show slots + 18 + 0 ≤ 7293034; omega⟩) hS9 hF2 (fun r8 u8 H locs hp hP1 hD1 hz1 hk1 hS9 => ?_)
  obtain ⟨hP, hD⟩ := cs_joinR hP hD hk1 hF2 hP1 hD1
  refine lv_istore (lv' := [(6, .int r8), (5, .int (cs_kSet S (xs (i + 1)) (xs (i + 2)) (xs (i + 3)))), (0, .ref b), (1, .ref (ad 0)), (2, .ref (bd 0)), (3, .ref o9), (4, .int (nI i))]) hx hb dL_law_894 hl (by decide) rfl (fun ls hl => ?_)
  refine cs_tl C0 hP hl (fun h => by rw [hv h, hp h]) (by omega) (by omega) dL_law_896 dL_law_897 dL_law_900 dL_law_902 dL_law_907 dL_law_909 dL_law_912 dL_law_913 dL_law_914 dL_law_915 dL_law_917 dL_law_918 dL_law_919 dL_law_924 (by decide) ?_
  refine W.widen (k := cells + 5) (n := slots + 32) (by omega) (by omega) ?_
  exact kk (cs_sSet S (xs (i + 1)) (xs (i + 2)) (xs (i + 3))) (cs_kSet S (xs (i + 1)) (xs (i + 2)) (xs (i + 3))) ad u9 H locs ls (cs_okk_set hok (xs (i + 1)) (xs (i + 2)) (xs (i + 3))) rfl ⟨hP, hD, hS9⟩ (lv_sub hl [2, 3, 4, 5, 6] rfl)
set_option maxHeartbeats 4000000 in
set_option maxRecDepth 100000 in
theorem lw_c_truncate (hlf : l.stackTraces = false) (C0 : cs_C p l s m c b L xs D cy) {i a0 cells slots : Nat} {S : cs_St} {th : Int32} {ad bd : Nat → Nat} {o9 : Nat} {f : Nat → Int64} {H : Heap} {locs : List Loc} {ls : Array Slot} (hi : i + 7 ≤ L) (hc : cells + 5 ≤ 601024) (hs : slots + 32 ≤ 7293034) (hok : cs_okk S) (had : ad 0 = a0) (hLS : cs_LS D s H locs S th ad bd o9 f cy) (hl : lv_has ls 7 [(0, .ref b), (1, .ref a0), (2, .ref (bd 0)), (3, .ref o9), (4, .int (nI i))]) (kk : cs_KK p l e s m b below meth c Q D cy bd o9 a0 i (cells + 5) (slots + 32)) : W p l e room_1 s m #[.ref b] below meth c H locs cells slots Q (F0 m 927 ls []) := by
  have hS := hok.1
  have C1 := C0
  obtain ⟨hx, hb, hml, -, hown, hts, -, -, -, hE, hn, hz0, hK⟩ := C1
  subst had
  obtain ⟨hP, hD, hS9⟩ := hLS
  have hPl : va_P D vwCl (cs_O o9 f S ad cy) H := cs_PL hP
  have hDl : va_D (fun q => s.heap.size ≤ q) (cs_O o9 f S ad cy) := cs_DL hD
  have hF : ∀ q, va_A (cs_O o9 f S ad cy) H.size q → (fun q => s.heap.size ≤ q) q := cs_inL hD hS9 (fun _ h => h)
  have hz : cs_zz (va_A (cs_O o9 f S ad cy) H.size) s H := (hz0.kept (fun a h1 h2 => hS9.2.1 a h1 h2)).narrow hF
  refine lv_aload_n hx hb dL_law_927 rfl (lv_at hl 1 rfl) ?_
  refine cs_rd C0 hS9 hl 0 4 rfl rfl 1 (jj := 1) hi (by decide) (by decide) dL_law_928 dL_law_929 dL_law_931 dL_law_932 dL_law_933 ?_
  refine cs_rd C0 hS9 hl 0 4 rfl rfl 2 (jj := 2) hi (by decide) (by decide) dL_law_934 dL_law_935 dL_law_937 dL_law_938 dL_law_939 ?_
  refine lv_aload_n hx hb dL_law_940 rfl (lv_at hl 3 rfl) ?_
  refine cs_wcalli (vx_runSW (As := [.ref (ad 0), .int (xs (i + 1)), .int (xs (i + 2)), .ref o9]) (rest := []) ⟨hx, hb, hml, hown, hts⟩ (k_L_truncate l hlf D S ad cy o9 f H.size hS (xs (i + 1)) (xs (i + 2))) (vx_cwSW 4 hts gL_law_L_truncate rfl rfl rfl (by decide +kernel) ⟨(Nat.le_of_ble_eq_true rfl), (Nat.le_of_ble_eq_true rfl)⟩) ⟨cs_Bl.blind, cs_Bl.at hn hE hz hPl hK hDl⟩ rfl rfl hl.1 rfl (lv_room (Nat.le_of_ble_eq_true rfl)) dL_law_941 ⟨by show cells + 2 ≤ 601024; omega, by show slots + 12 ≤ 7293034; omega⟩) hS9 hF (fun r9 u9 H locs hp hP1 hD1 hz1 hk1 hS9 => ?_)
  obtain ⟨rfl, hv⟩ := hp
  obtain ⟨hP, hD⟩ := cs_joinL hP hD hk1 hF hP1 hD1
  refine lv_istore (lv' := [(5, .int (cs_kTru S (xs (i + 1)) (xs (i + 2)))), (0, .ref b), (1, .ref (ad 0)), (2, .ref (bd 0)), (3, .ref o9), (4, .int (nI i))]) hx hb dL_law_944 hl (by decide) rfl (fun ls hl => ?_)
  refine lv_aload_n hx hb dL_law_946 rfl (lv_at hl 3 rfl) ?_
  refine cs_rd C0 hS9 hl 1 5 rfl rfl 1 (jj := 1) hi (by decide) (by decide) dL_law_947 dL_law_948 dL_law_950 dL_law_951 dL_law_952 ?_
  refine cs_rd C0 hS9 hl 1 5 rfl rfl 2 (jj := 2) hi (by decide) (by decide) dL_law_953 dL_law_954 dL_law_956 dL_law_957 dL_law_958 ?_
  have hPR := cs_PR hP
  have hDR := cs_DR hD
  have hF2 : ∀ q, va_A (cs_R S th bd cy) H.size q → (fun q => s.heap.size ≤ q) q := cs_inR hD hS9 (fun _ h => h)
  refine cs_wcalli (va_runV (As := [.int (xs (i + 1)), .int (xs (i + 2))]) (rest := []) ⟨hx, hb, hml, hown, hts⟩ (k_X2_truncate l D S th bd cy H.size hS (xs (i + 1)) (xs (i + 2))) (cwV 2 hts gL_law_X2_truncate rfl rfl rfl (by decide +kernel) ⟨(Nat.le_of_ble_eq_true rfl), (Nat.le_of_ble_eq_true rfl)⟩) ⟨cs_Bw.blind, va_recv hK hPR (ci := 2) (q0 := 0) rfl rfl, cs_Bw.at hE hPR hK hDR⟩ rfl rfl hl.1 rfl (lv_room (Nat.le_of_ble_eq_true rfl)) dL_law_959 ⟨by show cells + 2 + 0 ≤ 601024; omega, by show slots + 12 + 0 ≤ 7293034; omega⟩) hS9 hF2 (fun r8 u8 H locs hp hP1 hD1 hz1 hk1 hS9 => ?_)
  obtain ⟨hP, hD⟩ := cs_joinR hP hD hk1 hF2 hP1 hD1
  refine lv_istore (lv' := [(6, .int r8), (5, .int (cs_kTru S (xs (i + 1)) (xs (i + 2)))), (0, .ref b), (1, .ref (ad 0)), (2, .ref (bd 0)), (3, .ref o9), (4, .int (nI i))]) hx hb dL_law_962 hl (by decide) rfl (fun ls hl => ?_)
  refine cs_tl C0 hP hl (fun h => by rw [hv h, hp h]) (by omega) (by omega) dL_law_964 dL_law_965 dL_law_968 dL_law_970 dL_law_975 dL_law_977 dL_law_980 dL_law_981 dL_law_982 dL_law_983 dL_law_985 dL_law_986 dL_law_987 dL_law_992 (by decide) ?_
  refine W.widen (k := cells + 5) (n := slots + 32) (by omega) (by omega) ?_
  exact kk (cs_sTru S (xs (i + 1)) (xs (i + 2))) (cs_kTru S (xs (i + 1)) (xs (i + 2))) ad u9 H locs ls (cs_okk_tru hok (xs (i + 1)) (xs (i + 2))) rfl ⟨hP, hD, hS9⟩ (lv_sub hl [2, 3, 4, 5, 6] rfl)
set_option maxHeartbeats 4000000 in
set_option maxRecDepth 100000 in
theorem lw_c_length (hlf : l.stackTraces = false) (C0 : cs_C p l s m c b L xs D cy) {i a0 cells slots : Nat} {S : cs_St} {th : Int32} {ad bd : Nat → Nat} {o9 : Nat} {f : Nat → Int64} {H : Heap} {locs : List Loc} {ls : Array Slot} (hi : i + 7 ≤ L) (hc : cells + 5 ≤ 601024) (hs : slots + 32 ≤ 7293034) (hok : cs_okk S) (had : ad 0 = a0) (hLS : cs_LS D s H locs S th ad bd o9 f cy) (hl : lv_has ls 7 [(0, .ref b), (1, .ref a0), (2, .ref (bd 0)), (3, .ref o9), (4, .int (nI i))]) (kk : cs_KK p l e s m b below meth c Q D cy bd o9 a0 i (cells + 5) (slots + 32)) : W p l e room_1 s m #[.ref b] below meth c H locs cells slots Q (F0 m 995 ls []) := by
  have hS := hok.1
  have C1 := C0
  obtain ⟨hx, hb, hml, -, hown, hts, -, -, -, hE, hn, hz0, hK⟩ := C1
  subst had
  obtain ⟨hP, hD, hS9⟩ := hLS
  have hPl : va_P D vwCl (cs_O o9 f S ad cy) H := cs_PL hP
  have hDl : va_D (fun q => s.heap.size ≤ q) (cs_O o9 f S ad cy) := cs_DL hD
  have hF : ∀ q, va_A (cs_O o9 f S ad cy) H.size q → (fun q => s.heap.size ≤ q) q := cs_inL hD hS9 (fun _ h => h)
  have hz : cs_zz (va_A (cs_O o9 f S ad cy) H.size) s H := (hz0.kept (fun a h1 h2 => hS9.2.1 a h1 h2)).narrow hF
  refine lv_aload_n hx hb dL_law_995 rfl (lv_at hl 1 rfl) ?_
  refine cs_rd C0 hS9 hl 0 4 rfl rfl 1 (jj := 1) hi (by decide) (by decide) dL_law_996 dL_law_997 dL_law_999 dL_law_1000 dL_law_1001 ?_
  refine lv_aload_n hx hb dL_law_1002 rfl (lv_at hl 3 rfl) ?_
  refine cs_wcalli (vx_runSW (As := [.ref (ad 0), .int (xs (i + 1)), .ref o9]) (rest := []) ⟨hx, hb, hml, hown, hts⟩ (k_L_length l hlf D S ad cy o9 f H.size hS (xs (i + 1))) (vx_cwSW 3 hts gL_law_L_length rfl rfl rfl (by decide +kernel) ⟨(Nat.le_of_ble_eq_true rfl), (Nat.le_of_ble_eq_true rfl)⟩) ⟨cs_Bl.blind, cs_Bl.at hn hE hz hPl hK hDl⟩ rfl rfl hl.1 rfl (lv_room (Nat.le_of_ble_eq_true rfl)) dL_law_1003 ⟨by show cells + 1 ≤ 601024; omega, by show slots + 6 ≤ 7293034; omega⟩) hS9 hF (fun r9 u9 H locs hp hP1 hD1 hz1 hk1 hS9 => ?_)
  obtain ⟨rfl, hv⟩ := hp
  obtain ⟨hP, hD⟩ := cs_joinL hP hD hk1 hF hP1 hD1
  refine lv_istore (lv' := [(5, .int (cs_k1 (cs_in (xs (i + 1)) 0 3))), (0, .ref b), (1, .ref (ad 0)), (2, .ref (bd 0)), (3, .ref o9), (4, .int (nI i))]) hx hb dL_law_1006 hl (by decide) rfl (fun ls hl => ?_)
  refine lv_aload_n hx hb dL_law_1008 rfl (lv_at hl 3 rfl) ?_
  refine cs_rd C0 hS9 hl 1 5 rfl rfl 1 (jj := 1) hi (by decide) (by decide) dL_law_1009 dL_law_1010 dL_law_1012 dL_law_1013 dL_law_1014 ?_
  have hPR := cs_PR hP
  have hDR := cs_DR hD
  have hF2 : ∀ q, va_A (cs_R S th bd cy) H.size q → (fun q => s.heap.size ≤ q) q := cs_inR hD hS9 (fun _ h => h)
  refine cs_wcalli (va_runV (As := [.int (xs (i + 1))]) (rest := []) ⟨hx, hb, hml, hown, hts⟩ (k_X2_length l D S th bd cy H.size hS (xs (i + 1))) (cwV 1 hts gL_law_X2_length rfl rfl rfl (by decide +kernel) ⟨(Nat.le_of_ble_eq_true rfl), (Nat.le_of_ble_eq_true rfl)⟩) ⟨cs_Bw.blind, va_recv hK hPR (ci := 2) (q0 := 0) rfl rfl, cs_Bw.at hE hPR hK hDR⟩ rfl rfl hl.1 rfl (lv_room (Nat.le_of_ble_eq_true rfl)) dL_law_1015 ⟨by show cells + 1 + 0 ≤ 601024; omega, by show slots + 6 + 0 ≤ 7293034; omega⟩) hS9 hF2 (fun r8 u8 H locs hp hP1 hD1 hz1 hk1 hS9 => ?_)
  obtain ⟨hP, hD⟩ := cs_joinR hP hD hk1 hF2 hP1 hD1
  refine lv_istore (lv' := [(6, .int r8), (5, .int (cs_k1 (cs_in (xs (i + 1)) 0 3))), (0, .ref b), (1, .ref (ad 0)), (2, .ref (bd 0)), (3, .ref o9), (4, .int (nI i))]) hx hb dL_law_1018 hl (by decide) rfl (fun ls hl => ?_)
  refine cs_tl C0 hP hl (fun h => by rw [hv h, hp h]) (by omega) (by omega) dL_law_1020 dL_law_1021 dL_law_1024 dL_law_1026 dL_law_1031 dL_law_1033 dL_law_1036 dL_law_1037 dL_law_1038 dL_law_1039 dL_law_1041 dL_law_1042 dL_law_1043 dL_law_1048 (by decide) ?_
  refine W.widen (k := cells + 5) (n := slots + 32) (by omega) (by omega) ?_
  exact kk S (cs_k1 (cs_in (xs (i + 1)) 0 3)) ad u9 H locs ls hok rfl ⟨hP, hD, hS9⟩ (lv_sub hl [2, 3, 4, 5, 6] rfl)
end CSLC
