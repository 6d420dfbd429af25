section CSLC
variable {p : Program} {l : Launch} {e : Env} {s : State} {m : MethodId} {b : Nat} {below : List Frame} {meth : Method} {c : Code} {Q : State → Prop} {L : Nat} {xs : Nat → Int32} {D : va_G} {cy : Nat → ClassId}
set_option maxHeartbeats 4000000 in
set_option maxRecDepth 100000 in
theorem lw_c_wrongBit (hlf : l.stackTraces = false) (C0 : cs_C p l s m c b L xs D cy) {i a0 cells slots : Nat} {S : cs_St} {th : Int32} {ad bd : Nat → Nat} {o9 : Nat} {f : Nat → Int64} {H : Heap} {locs : List Loc} {ls : Array Slot} (hi : i + 7 ≤ L) (hc : cells + 5 ≤ 601024) (hs : slots + 32 ≤ 7293034) (hok : cs_okk S) (had : ad 0 = a0) (hLS : cs_LS D s H locs S th ad bd o9 f cy) (hl : lv_has ls 7 [(0, .ref b), (1, .ref a0), (2, .ref (bd 0)), (3, .ref o9), (4, .int (nI i))]) (kk : cs_KK p l e s m b below meth c Q D cy bd o9 a0 i (cells + 5) (slots + 32)) : W p l e room_1 s m #[.ref b] below meth c H locs cells slots Q (F0 m 1531 ls []) := by
  have hS := hok.1
  have C1 := C0
  obtain ⟨hx, hb, hml, -, hown, hts, -, -, -, hE, hn, hz0, hK⟩ := C1
  subst had
  obtain ⟨hP, hD, hS9⟩ := hLS
  have hPl : va_P D vwCl (cs_O o9 f S ad cy) H := cs_PL hP
  have hDl : va_D (fun q => s.heap.size ≤ q) (cs_O o9 f S ad cy) := cs_DL hD
  have hF : ∀ q, va_A (cs_O o9 f S ad cy) H.size q → (fun q => s.heap.size ≤ q) q := cs_inL hD hS9 (fun _ h => h)
  have hz : cs_zz (va_A (cs_O o9 f S ad cy) H.size) s H := (hz0.kept (fun a h1 h2 => hS9.2.1 a h1 h2)).narrow hF
  refine lv_aload_n hx hb dL_law_1531 rfl (lv_at hl 1 rfl) ?_
  refine cs_rd C0 hS9 hl 0 4 rfl rfl 1 (jj := 1) hi (by decide) (by decide) dL_law_1532 dL_law_1533 dL_law_1535 dL_law_1536 dL_law_1537 ?_
  refine cs_rd C0 hS9 hl 0 4 rfl rfl 2 (jj := 2) hi (by decide) (by decide) dL_law_1538 dL_law_1539 dL_law_1541 dL_law_1542 dL_law_1543 ?_
  refine cs_rd C0 hS9 hl 0 4 rfl rfl 3 (jj := 3) hi (by decide) (by decide) dL_law_1544 dL_law_1545 dL_law_1547 dL_law_1548 dL_law_1549 ?_
  refine lv_aload_n hx hb dL_law_1550 rfl (lv_at hl 3 rfl) ?_
  refine cs_wcalli (vx_runSW (As := [.ref (ad 0), .int (xs (i + 1)), .int (xs (i + 2)), .int (xs (i + 3)), .ref o9]) (rest := []) ⟨hx, hb, hml, hown, hts⟩ (k_L_wrongBit l hlf D S ad cy o9 f H.size hS (xs (i + 1)) (xs (i + 2)) (xs (i + 3))) (vx_cwSW 5 hts gL_law_L_wrongBit rfl rfl rfl (by decide +kernel) ⟨(Nat.le_of_ble_eq_true rfl), (Nat.le_of_ble_eq_true rfl)⟩) ⟨cs_Bl.blind, cs_Bl.at hn hE hz hPl hK hDl⟩ rfl rfl hl.1 rfl (lv_room (Nat.le_of_ble_eq_true rfl)) dL_law_1551 ⟨by show cells + 3 ≤ 601024; omega, by show slots + 18 ≤ 7293034; omega⟩) hS9 hF (fun r9 u9 H locs hp hP1 hD1 hz1 hk1 hS9 => ?_)
  obtain ⟨rfl, hv⟩ := hp
  obtain ⟨hP, hD⟩ := cs_joinL hP hD hk1 hF hP1 hD1
  refine lv_istore (lv' := [(5, .int (cs_kWro S (xs (i + 1)) (xs (i + 2)) (xs (i + 3)))), (0, .ref b), (1, .ref (ad 0)), (2, .ref (bd 0)), (3, .ref o9), (4, .int (nI i))]) hx hb dL_law_1554 hl (by decide) rfl (fun ls hl => ?_)
  refine lv_aload_n hx hb dL_law_1556 rfl (lv_at hl 3 rfl) ?_
  refine cs_rd C0 hS9 hl 1 5 rfl rfl 1 (jj := 1) hi (by decide) (by decide) dL_law_1557 dL_law_1558 dL_law_1560 dL_law_1561 dL_law_1562 ?_
  refine cs_rd C0 hS9 hl 1 5 rfl rfl 2 (jj := 2) hi (by decide) (by decide) dL_law_1563 dL_law_1564 dL_law_1566 dL_law_1567 dL_law_1568 ?_
  refine cs_rd C0 hS9 hl 1 5 rfl rfl 3 (jj := 3) hi (by decide) (by decide) dL_law_1569 dL_law_1570 dL_law_1572 dL_law_1573 dL_law_1574 ?_
  have hPR := cs_PR hP
  have hDR := cs_DR hD
  have hF2 : ∀ q, va_A (cs_R S th bd cy) H.size q → (fun q => s.heap.size ≤ q) q := cs_inR hD hS9 (fun _ h => h)
  refine cs_wcalli (va_runV (As := [.int (xs (i + 1)), .int (xs (i + 2)), .int (xs (i + 3))]) (rest := []) ⟨hx, hb, hml, hown, hts⟩ (k_X2_wrongBit l D S th bd cy H.size hS (xs (i + 1)) (xs (i + 2)) (xs (i + 3))) (cwV 3 hts gL_law_X2_wrongBit rfl rfl rfl (by decide +kernel) ⟨(Nat.le_of_ble_eq_true rfl), (Nat.le_of_ble_eq_true rfl)⟩) ⟨cs_Bw.blind, va_recv hK hPR (ci := 2) (q0 := 0) rfl rfl, cs_Bw.at hE hPR hK hDR⟩ rfl rfl hl.1 rfl (lv_room (Nat.le_of_ble_eq_true rfl)) dL_law_1575 ⟨by show cells + 3 + 0 ≤ 601024; omega, by show slots + 18 + 0 ≤ 7293034; omega⟩) hS9 hF2 (fun r8 u8 H locs hp hP1 hD1 hz1 hk1 hS9 => ?_)
  obtain ⟨hP, hD⟩ := cs_joinR hP hD hk1 hF2 hP1 hD1
  refine lv_istore (lv' := [(6, .int r8), (5, .int (cs_kWro S (xs (i + 1)) (xs (i + 2)) (xs (i + 3)))), (0, .ref b), (1, .ref (ad 0)), (2, .ref (bd 0)), (3, .ref o9), (4, .int (nI i))]) hx hb dL_law_1578 hl (by decide) rfl (fun ls hl => ?_)
  refine cs_tl C0 hP hl (fun h => by rw [hv h, hp h]) (by omega) (by omega) dL_law_1580 dL_law_1581 dL_law_1584 dL_law_1586 dL_law_1591 dL_law_1593 dL_law_1596 dL_law_1597 dL_law_1598 dL_law_1599 dL_law_1601 dL_law_1602 dL_law_1603 dL_law_1608 (by decide) ?_
  refine W.widen (k := cells + 5) (n := slots + 32) (by omega) (by omega) ?_
  exact kk S (cs_kWro S (xs (i + 1)) (xs (i + 2)) (xs (i + 3))) ad u9 H locs ls hok rfl ⟨hP, hD, hS9⟩ (lv_sub hl [2, 3, 4, 5, 6] rfl)
set_option maxHeartbeats 4000000 in
set_option maxRecDepth 100000 in
theorem lw_c_fletcher (hlf : l.stackTraces = false) (C0 : cs_C p l s m c b L xs D cy) {i a0 cells slots : Nat} {S : cs_St} {th : Int32} {ad bd : Nat → Nat} {o9 : Nat} {f : Nat → Int64} {H : Heap} {locs : List Loc} {ls : Array Slot} (hi : i + 7 ≤ L) (hc : cells + 5 ≤ 601024) (hs : slots + 32 ≤ 7293034) (hok : cs_okk S) (had : ad 0 = a0) (hLS : cs_LS D s H locs S th ad bd o9 f cy) (hl : lv_has ls 7 [(0, .ref b), (1, .ref a0), (2, .ref (bd 0)), (3, .ref o9), (4, .int (nI i))]) (kk : cs_KK p l e s m b below meth c Q D cy bd o9 a0 i (cells + 5) (slots + 32)) : W p l e room_1 s m #[.ref b] below meth c H locs cells slots Q (F0 m 1611 ls []) := by
  have hS := hok.1
  have C1 := C0
  obtain ⟨hx, hb, hml, -, hown, hts, -, -, -, hE, hn, hz0, hK⟩ := C1
  subst had
  obtain ⟨hP, hD, hS9⟩ := hLS
  have hPl : va_P D vwCl (cs_O o9 f S ad cy) H := cs_PL hP
  have hDl : va_D (fun q => s.heap.size ≤ q) (cs_O o9 f S ad cy) := cs_DL hD
  have hF : ∀ q, va_A (cs_O o9 f S ad cy) H.size q → (fun q => s.heap.size ≤ q) q := cs_inL hD hS9 (fun _ h => h)
  have hz : cs_zz (va_A (cs_O o9 f S ad cy) H.size) s H := (hz0.kept (fun a h1 h2 => hS9.2.1 a h1 h2)).narrow hF
  refine lv_aload_n hx hb dL_law_1611 rfl (lv_at hl 1 rfl) ?_
  refine cs_rd C0 hS9 hl 0 4 rfl rfl 1 (jj := 1) hi (by decide) (by decide) dL_law_1612 dL_law_1613 dL_law_1615 dL_law_1616 dL_law_1617 ?_
  refine lv_aload_n hx hb dL_law_1618 rfl (lv_at hl 3 rfl) ?_
  refine cs_wcalli (vx_runSW (As := [.ref (ad 0), .int (xs (i + 1)), .ref o9]) (rest := []) ⟨hx, hb, hml, hown, hts⟩ (k_L_fletcher l hlf D S ad cy o9 f H.size hS (xs (i + 1))) (vx_cwSW 3 hts gL_law_L_fletcher rfl rfl rfl (by decide +kernel) ⟨(Nat.le_of_ble_eq_true rfl), (Nat.le_of_ble_eq_true rfl)⟩) ⟨cs_Bl.blind, cs_Bl.at hn hE hz hPl hK hDl⟩ rfl rfl hl.1 rfl (lv_room (Nat.le_of_ble_eq_true rfl)) dL_law_1619 ⟨by show cells + 1 ≤ 601024; omega, by show slots + 6 ≤ 7293034; omega⟩) hS9 hF (fun r9 u9 H locs hp hP1 hD1 hz1 hk1 hS9 => ?_)
  obtain ⟨rfl, hv⟩ := hp
  obtain ⟨hP, hD⟩ := cs_joinL hP hD hk1 hF hP1 hD1
  refine lv_istore (lv' := [(5, .int (cs_k1 (cs_in (xs (i + 1)) 0 3))), (0, .ref b), (1, .ref (ad 0)), (2, .ref (bd 0)), (3, .ref o9), (4, .int (nI i))]) hx hb dL_law_1622 hl (by decide) rfl (fun ls hl => ?_)
  refine lv_aload_n hx hb dL_law_1624 rfl (lv_at hl 3 rfl) ?_
  refine cs_rd C0 hS9 hl 1 5 rfl rfl 1 (jj := 1) hi (by decide) (by decide) dL_law_1625 dL_law_1626 dL_law_1628 dL_law_1629 dL_law_1630 ?_
  have hPR := cs_PR hP
  have hDR := cs_DR hD
  have hF2 : ∀ q, va_A (cs_R S th bd cy) H.size q → (fun q => s.heap.size ≤ q) q := cs_inR hD hS9 (fun _ h => h)
  refine cs_wcalli (va_runV (As := [.int (xs (i + 1))]) (rest := []) ⟨hx, hb, hml, hown, hts⟩ (k_X2_fletcher l D S th bd cy H.size hS (xs (i + 1))) (cwV 1 hts gL_law_X2_fletcher rfl rfl rfl (by decide +kernel) ⟨(Nat.le_of_ble_eq_true rfl), (Nat.le_of_ble_eq_true rfl)⟩) ⟨cs_Bw.blind, va_recv hK hPR (ci := 2) (q0 := 0) rfl rfl, cs_Bw.at hE hPR hK hDR⟩ rfl rfl hl.1 rfl (lv_room (Nat.le_of_ble_eq_true rfl)) dL_law_1631 ⟨by show cells + 1 + 0 ≤ 601024; omega, by show slots + 6 + 0 ≤ 7293034; omega⟩) hS9 hF2 (fun r8 u8 H locs hp hP1 hD1 hz1 hk1 hS9 => ?_)
  obtain ⟨hP, hD⟩ := cs_joinR hP hD hk1 hF2 hP1 hD1
  refine lv_istore (lv' := [(6, .int r8), (5, .int (cs_k1 (cs_in (xs (i + 1)) 0 3))), (0, .ref b), (1, .ref (ad 0)), (2, .ref (bd 0)), (3, .ref o9), (4, .int (nI i))]) hx hb dL_law_1634 hl (by decide) rfl (fun ls hl => ?_)
  refine cs_tl C0 hP hl (fun h => by rw [hv h, hp h]) (by omega) (by omega) dL_law_1636 dL_law_1637 dL_law_1640 dL_law_1642 dL_law_1647 dL_law_1649 dL_law_1652 dL_law_1653 dL_law_1654 dL_law_1655 dL_law_1657 dL_law_1658 dL_law_1659 dL_law_1664 (by decide) ?_
  refine W.widen (k := cells + 5) (n := slots + 32) (by omega) (by omega) ?_
  exact kk S (cs_k1 (cs_in (xs (i + 1)) 0 3)) ad u9 H locs ls hok rfl ⟨hP, hD, hS9⟩ (lv_sub hl [2, 3, 4, 5, 6] rfl)
set_option maxHeartbeats 4000000 in
set_option maxRecDepth 100000 in
theorem lw_c_fletcherJoined (hlf : l.stackTraces = false) (C0 : cs_C p l s m c b L xs D cy) {i a0 cells slots : Nat} {S : cs_St} {th : Int32} {ad bd : Nat → Nat} {o9 : Nat} {f : Nat → Int64} {H : Heap} {locs : List Loc} {ls : Array Slot} (hi : i + 7 ≤ L) (hc : cells + 5 ≤ 601024) (hs : slots + 32 ≤ 7293034) (hok : cs_okk S) (had : ad 0 = a0) (hLS : cs_LS D s H locs S th ad bd o9 f cy) (hl : lv_has ls 7 [(0, .ref b), (1, .ref a0), (2, .ref (bd 0)), (3, .ref o9), (4, .int (nI i))]) (kk : cs_KK p l e s m b below meth c Q D cy bd o9 a0 i (cells + 5) (slots + 32)) : W p l e room_1 s m #[.ref b] below meth c H locs cells slots Q (F0 m 1667 ls []) := by
  have hS := hok.1
  have C1 := C0
  obtain ⟨hx, hb, hml, -, hown, hts, -, -, -, hE, hn, hz0, hK⟩ := C1
  subst had
  obtain ⟨hP, hD, hS9⟩ := hLS
  have hPl : va_P D vwCl (cs_O o9 f S ad cy) H := cs_PL hP
  have hDl : va_D (fun q => s.heap.size ≤ q) (cs_O o9 f S ad cy) := cs_DL hD
  have hF : ∀ q, va_A (cs_O o9 f S ad cy) H.size q → (fun q => s.heap.size ≤ q) q := cs_inL hD hS9 (fun _ h => h)
  have hz : cs_zz (va_A (cs_O o9 f S ad cy) H.size) s H := (hz0.kept (fun a h1 h2 => hS9.2.1 a h1 h2)).narrow hF
  refine lv_aload_n hx hb dL_law_1667 rfl (lv_at hl 1 rfl) ?_
  refine cs_rd C0 hS9 hl 0 4 rfl rfl 1 (jj := 1) hi (by decide) (by decide) dL_law_1668 dL_law_1669 dL_law_1671 dL_law_1672 dL_law_1673 ?_
  refine cs_rd C0 hS9 hl 0 4 rfl rfl 2 (jj := 2) hi (by decide) (by decide) dL_law_1674 dL_law_1675 dL_law_1677 dL_law_1678 dL_law_1679 ?_
  refine cs_rd C0 hS9 hl 0 4 rfl rfl 3 (jj := 3) hi (by decide) (by decide) dL_law_1680 dL_law_1681 dL_law_1683 dL_law_1684 dL_law_1685 ?_
  refine lv_aload_n hx hb dL_law_1686 rfl (lv_at hl 3 rfl) ?_
  refine cs_wcalli (vx_runSW (As := [.ref (ad 0), .int (xs (i + 1)), .int (xs (i + 2)), .int (xs (i + 3)), .ref o9]) (rest := []) ⟨hx, hb, hml, hown, hts⟩ (k_L_fletcherJoined l hlf D S ad cy o9 f H.size (xs (i + 1)) (xs (i + 2)) (xs (i + 3))) (vx_cwSW 5 hts gL_law_L_fletcherJoined rfl rfl rfl (by decide +kernel) ⟨(Nat.le_of_ble_eq_true rfl), (Nat.le_of_ble_eq_true rfl)⟩) ⟨cs_Bl.blind, cs_Bl.at hn hE hz hPl hK hDl⟩ rfl rfl hl.1 rfl (lv_room (Nat.le_of_ble_eq_true rfl)) dL_law_1687 ⟨by show cells + 3 ≤ 601024; omega, by show slots + 18 ≤ 7293034; omega⟩) hS9 hF (fun r9 u9 H locs hp hP1 hD1 hz1 hk1 hS9 => ?_)
  obtain ⟨rfl, hv⟩ := hp
  obtain ⟨hP, hD⟩ := cs_joinL hP hD hk1 hF hP1 hD1
  refine lv_istore (lv' := [(5, .int (cs_kFlj (xs (i + 1)) (xs (i + 2)) (xs (i + 3)))), (0, .ref b), (1, .ref (ad 0)), (2, .ref (bd 0)), (3, .ref o9), (4, .int (nI i))]) hx hb dL_law_1690 hl (by decide) rfl (fun ls hl => ?_)
  refine lv_aload_n hx hb dL_law_1692 rfl (lv_at hl 3 rfl) ?_
  refine cs_rd C0 hS9 hl 1 5 rfl rfl 1 (jj := 1) hi (by decide) (by decide) dL_law_1693 dL_law_1694 dL_law_1696 dL_law_1697 dL_law_1698 ?_
  refine cs_rd C0 hS9 hl 1 5 rfl rfl 2 (jj := 2) hi (by decide) (by decide) dL_law_1699 dL_law_1700 dL_law_1702 dL_law_1703 dL_law_1704 ?_
  refine cs_rd C0 hS9 hl 1 5 rfl rfl 3 (jj := 3) hi (by decide) (by decide) dL_law_1705 dL_law_1706 dL_law_1708 dL_law_1709 dL_law_1710 ?_
  have hPR := cs_PR hP
  have hDR := cs_DR hD
  have hF2 : ∀ q, va_A (cs_R S th bd cy) H.size q → (fun q => s.heap.size ≤ q) q := cs_inR hD hS9 (fun _ h => h)
  refine cs_wcalli (va_runV (As := [.int (xs (i + 1)), .int (xs (i + 2)), .int (xs (i + 3))]) (rest := []) ⟨hx, hb, hml, hown, hts⟩ (k_X2_fletcherJoined l D S th bd cy H.size (xs (i + 1)) (xs (i + 2)) (xs (i + 3))) (cwV 3 hts gL_law_X2_fletcherJoined rfl rfl rfl (by decide +kernel) ⟨(Nat.le_of_ble_eq_true rfl), (Nat.le_of_ble_eq_true rfl)⟩) ⟨cs_Bw.blind, va_recv hK hPR (ci := 2) (q0 := 0) rfl rfl, cs_Bw.at hE hPR hK hDR⟩ rfl rfl hl.1 rfl (lv_room (Nat.le_of_ble_eq_true rfl)) dL_law_1711 ⟨by show cells + 3 + 0 ≤ 601024; omega, by show slots + 18 + 0 ≤ 7293034; omega⟩) hS9 hF2 (fun r8 u8 H locs hp hP1 hD1 hz1 hk1 hS9 => ?_)
  obtain ⟨hP, hD⟩ := cs_joinR hP hD hk1 hF2 hP1 hD1
  refine lv_istore (lv' := [(6, .int r8), (5, .int (cs_kFlj (xs (i + 1)) (xs (i + 2)) (xs (i + 3)))), (0, .ref b), (1, .ref (ad 0)), (2, .ref (bd 0)), (3, .ref o9), (4, .int (nI i))]) hx hb dL_law_1714 hl (by decide) rfl (fun ls hl => ?_)
  refine cs_tl C0 hP hl (fun h => by rw [hv h, hp h]) (by omega) (by omega) dL_law_1716 dL_law_1717 dL_law_1720 dL_law_1722 dL_law_1727 dL_law_1729 dL_law_1732 dL_law_1733 dL_law_1734 dL_law_1735 dL_law_1737 dL_law_1738 dL_law_1739 dL_law_1744 (by decide) ?_
  refine W.widen (k := cells + 5) (n := slots + 32) (by omega) (by omega) ?_
  exact kk S (cs_kFlj (xs (i + 1)) (xs (i + 2)) (xs (i + 3))) ad u9 H locs ls hok rfl ⟨hP, hD, hS9⟩ (lv_sub hl [2, 3, 4, 5, 6] rfl)
set_option maxHeartbeats 4000000 in
set_option maxRecDepth 100000 in
theorem lw_c_adler (hlf : l.stackTraces = false) (C0 : cs_C p l s m c b L xs D cy) {i a0 cells slots : Nat} {S : cs_St} {th : Int32} {ad bd : Nat → Nat} {o9 : Nat} {f : Nat → Int64} {H : Heap} {locs : List Loc} {ls : Array Slot} (hi : i + 7 ≤ L) (hc : cells + 5 ≤ 601024) (hs : slots + 32 ≤ 7293034) (hok : cs_okk S) (had : ad 0 = a0) (hLS : cs_LS D s H locs S th ad bd o9 f cy) (hl : lv_has ls 7 [(0, .ref b), (1, .ref a0), (2, .ref (bd 0)), (3, .ref o9), (4, .int (nI i))]) (kk : cs_KK p l e s m b below meth c Q D cy bd o9 a0 i (cells + 5) (slots + 32)) : W p l e room_1 s m #[.ref b] below meth c H locs cells slots Q (F0 m 1747 ls []) := by
  have hS := hok.1
  have C1 := C0
  obtain ⟨hx, hb, hml, -, hown, hts, -, -, -, hE, hn, hz0, hK⟩ := C1
  subst had
  obtain ⟨hP, hD, hS9⟩ := hLS
  have hPl : va_P D vwCl (cs_O o9 f S ad cy) H := cs_PL hP
  have hDl : va_D (fun q => s.heap.size ≤ q) (cs_O o9 f S ad cy) := cs_DL hD
  have hF : ∀ q, va_A (cs_O o9 f S ad cy) H.size q → (fun q => s.heap.size ≤ q) q := cs_inL hD hS9 (fun _ h => h)
  have hz : cs_zz (va_A (cs_O o9 f S ad cy) H.size) s H := (hz0.kept (fun a h1 h2 => hS9.2.1 a h1 h2)).narrow hF
  refine lv_aload_n hx hb dL_law_1747 rfl (lv_at hl 1 rfl) ?_
  refine cs_rd C0 hS9 hl 0 4 rfl rfl 1 (jj := 1) hi (by decide) (by decide) dL_law_1748 dL_law_1749 dL_law_1751 dL_law_1752 dL_law_1753 ?_
  refine lv_aload_n hx hb dL_law_1754 rfl (lv_at hl 3 rfl) ?_
  refine cs_wcalli (vx_runSW (As := [.ref (ad 0), .int (xs (i + 1)), .ref o9]) (rest := []) ⟨hx, hb, hml, hown, hts⟩ (k_L_adler l hlf D S ad cy o9 f H.size hS (xs (i + 1))) (vx_cwSW 3 hts gL_law_L_adler rfl rfl rfl (by decide +kernel) ⟨(Nat.le_of_ble_eq_true rfl), (Nat.le_of_ble_eq_true rfl)⟩) ⟨cs_Bl.blind, cs_Bl.at hn hE hz hPl hK hDl⟩ rfl rfl hl.1 rfl (lv_room (Nat.le_of_ble_eq_true rfl)) dL_law_1755 ⟨by show cells + 1 ≤ 601024; omega, by show slots + 6 ≤ 7293034; omega⟩) hS9 hF (fun r9 u9 H locs hp hP1 hD1 hz1 hk1 hS9 => ?_)
  obtain ⟨rfl, hv⟩ := hp
  obtain ⟨hP, hD⟩ := cs_joinL hP hD hk1 hF hP1 hD1
  refine lv_istore (lv' := [(5, .int (cs_k1 (cs_in (xs (i + 1)) 0 3))), (0, .ref b), (1, .ref (ad 0)), (2, .ref (bd 0)), (3, .ref o9), (4, .int (nI i))]) hx hb dL_law_1758 hl (by decide) rfl (fun ls hl => ?_)
  refine lv_aload_n hx hb dL_law_1760 rfl (lv_at hl 3 rfl) ?_
  refine cs_rd C0 hS9 hl 1 5 rfl rfl 1 (jj := 1) hi (by decide) (by decide) dL_law_1761 dL_law_1762 dL_law_1764 dL_law_1765 dL_law_1766 ?_
  have hPR := cs_PR hP
  have hDR := cs_DR hD
  have hF2 : ∀ q, va_A (cs_R S th bd cy) H.size q → (fun q => s.heap.size ≤ q) q := cs_inR hD hS9 (fun _ h => h)
  refine cs_wcalli (va_runV (As := [.int (xs (i + 1))]) (rest := []) ⟨hx, hb, hml, hown, hts⟩ (k_X2_adler l D S th bd cy H.size hS (xs (i + 1))) (cwV 1 hts gL_law_X2_adler rfl rfl rfl (by decide +kernel) ⟨(Nat.le_of_ble_eq_true rfl), (Nat.le_of_ble_eq_true rfl)⟩) ⟨cs_Bw.blind, va_recv hK hPR (ci := 2) (q0 := 0) rfl rfl, cs_Bw.at hE hPR hK hDR⟩ rfl rfl hl.1 rfl (lv_room (Nat.le_of_ble_eq_true rfl)) dL_law_1767 ⟨by show cells + 1 + 0 ≤ 601024; omega, by show slots + 6 + 0 ≤ 7293034; omega⟩) hS9 hF2 (fun r8 u8 H locs hp hP1 hD1 hz1 hk1 hS9 => ?_)
  obtain ⟨hP, hD⟩ := cs_joinR hP hD hk1 hF2 hP1 hD1
  refine lv_istore (lv' := [(6, .int r8), (5, .int (cs_k1 (cs_in (xs (i + 1)) 0 3))), (0, .ref b), (1, .ref (ad 0)), (2, .ref (bd 0)), (3, .ref o9), (4, .int (nI i))]) hx hb dL_law_1770 hl (by decide) rfl (fun ls hl => ?_)
  refine cs_tl C0 hP hl (fun h => by rw [hv h, hp h]) (by omega) (by omega) dL_law_1772 dL_law_1773 dL_law_1776 dL_law_1778 dL_law_1783 dL_law_1785 dL_law_1788 dL_law_1789 dL_law_1790 dL_law_1791 dL_law_1793 dL_law_1794 dL_law_1795 dL_law_1800 (by decide) ?_
  refine W.widen (k := cells + 5) (n := slots + 32) (by omega) (by omega) ?_
  exact kk S (cs_k1 (cs_in (xs (i + 1)) 0 3)) ad u9 H locs ls hok rfl ⟨hP, hD, hS9⟩ (lv_sub hl [2, 3, 4, 5, 6] rfl)
set_option maxHeartbeats 4000000 in
set_option maxRecDepth 100000 in
theorem lw_c_adlerJoined (hlf : l.stackTraces = false) (C0 : cs_C p l s m c b L xs D cy) {i a0 cells slots : Nat} {S : cs_St} {th : Int32} {ad bd : Nat → Nat} {o9 : Nat} {f : Nat → Int64} {H : Heap} {locs : List Loc} {ls : Array Slot} (hi : i + 7 ≤ L) (hc : cells + 5 ≤ 601024) (hs : slots + 32 ≤ 7293034) (hok : cs_okk S) (had : ad 0 = a0) (hLS : cs_LS D s H locs S th ad bd o9 f cy) (hl : lv_has ls 7 [(0, .ref b), (1, .ref a0), (2, .ref (bd 0)), (3, .ref o9), (4, .int (nI i))]) (kk : cs_KK p l e s m b below meth c Q D cy bd o9 a0 i (cells + 5) (slots + 32)) : W p l e room_1 s m #[.ref b] below meth c H locs cells slots Q (F0 m 1803 ls []) := by
  have hS := hok.1
  have C1 := C0
  obtain ⟨hx, hb, hml, -, hown, hts, -, -, -, hE, hn, hz0, hK⟩ := C1
  subst had
  obtain ⟨hP, hD, hS9⟩ := hLS
  have hPl : va_P D vwCl (cs_O o9 f S ad cy) H := cs_PL hP
  have hDl : va_D (fun q => s.heap.size ≤ q) (cs_O o9 f S ad cy) := cs_DL hD
  have hF : ∀ q, va_A (cs_O o9 f S ad cy) H.size q → (fun q => s.heap.size ≤ q) q := cs_inL hD hS9 (fun _ h => h)
  have hz : cs_zz (va_A (cs_O o9 f S ad cy) H.size) s H := (hz0.kept (fun a h1 h2 => hS9.2.1 a h1 h2)).narrow hF
  refine lv_aload_n hx hb dL_law_1803 rfl (lv_at hl 1 rfl) ?_
  refine cs_rd C0 hS9 hl 0 4 rfl rfl 1 (jj := 1) hi (by decide) (by decide) dL_law_1804 dL_law_1805 dL_law_1807 dL_law_1808 dL_law_1809 ?_
  refine cs_rd C0 hS9 hl 0 4 rfl rfl 2 (jj := 2) hi (by decide) (by decide) dL_law_1810 dL_law_1811 dL_law_1813 dL_law_1814 dL_law_1815 ?_
  refine cs_rd C0 hS9 hl 0 4 rfl rfl 3 (jj := 3) hi (by decide) (by decide) dL_law_1816 dL_law_1817 dL_law_1819 dL_law_1820 dL_law_1821 ?_
  refine lv_aload_n hx hb dL_law_1822 rfl (lv_at hl 3 rfl) ?_
  refine cs_wcalli (vx_runSW (As := [.ref (ad 0), .int (xs (i + 1)), .int (xs (i + 2)), .int (xs (i + 3)), .ref o9]) (rest := []) ⟨hx, hb, hml, hown, hts⟩ (k_L_adlerJoined l hlf D S ad cy o9 f H.size (xs (i + 1)) (xs (i + 2)) (xs (i + 3))) (vx_cwSW 5 hts gL_law_L_adlerJoined rfl rfl rfl (by decide +kernel) ⟨(Nat.le_of_ble_eq_true rfl), (Nat.le_of_ble_eq_true rfl)⟩) ⟨cs_Bl.blind, cs_Bl.at hn hE hz hPl hK hDl⟩ rfl rfl hl.1 rfl (lv_room (Nat.le_of_ble_eq_true rfl)) dL_law_1823 ⟨by show cells + 3 ≤ 601024; omega, by show slots + 18 ≤ 7293034; omega⟩) hS9 hF (fun r9 u9 H locs hp hP1 hD1 hz1 hk1 hS9 => ?_)
  obtain ⟨rfl, hv⟩ := hp
  obtain ⟨hP, hD⟩ := cs_joinL hP hD hk1 hF hP1 hD1
  refine lv_istore (lv' := [(5, .int (cs_kAdj (xs (i + 1)) (xs (i + 2)) (xs (i + 3)))), (0, .ref b), (1, .ref (ad 0)), (2, .ref (bd 0)), (3, .ref o9), (4, .int (nI i))]) hx hb dL_law_1826 hl (by decide) rfl (fun ls hl => ?_)
  refine lv_aload_n hx hb dL_law_1828 rfl (lv_at hl 3 rfl) ?_
  refine cs_rd C0 hS9 hl 1 5 rfl rfl 1 (jj := 1) hi (by decide) (by decide) dL_law_1829 dL_law_1830 dL_law_1832 dL_law_1833 dL_law_1834 ?_
  refine cs_rd C0 hS9 hl 1 5 rfl rfl 2 (jj := 2) hi (by decide) (by decide) dL_law_1835 dL_law_1836 dL_law_1838 dL_law_1839 dL_law_1840 ?_
  refine cs_rd C0 hS9 hl 1 5 rfl rfl 3 (jj := 3) hi (by decide) (by decide) dL_law_1841 dL_law_1842 dL_law_1844 dL_law_1845 dL_law_1846 ?_
  have hPR := cs_PR hP
  have hDR := cs_DR hD
  have hF2 : ∀ q, va_A (cs_R S th bd cy) H.size q → (fun q => s.heap.size ≤ q) q := cs_inR hD hS9 (fun _ h => h)
  refine cs_wcalli (va_runV (As := [.int (xs (i + 1)), .int (xs (i + 2)), .int (xs (i + 3))]) (rest := []) ⟨hx, hb, hml, hown, hts⟩ (k_X2_adlerJoined l D S th bd cy H.size (xs (i + 1)) (xs (i + 2)) (xs (i + 3))) (cwV 3 hts gL_law_X2_adlerJoined rfl rfl rfl (by decide +kernel) ⟨(Nat.le_of_ble_eq_true rfl), (Nat.le_of_ble_eq_true rfl)⟩) ⟨cs_Bw.blind, va_recv hK hPR (ci := 2) (q0 := 0) rfl rfl, cs_Bw.at hE hPR hK hDR⟩ rfl rfl hl.1 rfl (lv_room (Nat.le_of_ble_eq_true rfl)) dL_law_1847 ⟨by show cells + 3 + 0 ≤ 601024; omega, by show slots + 18 + 0 ≤ 7293034; omega⟩) hS9 hF2 (fun r8 u8 H locs hp hP1 hD1 hz1 hk1 hS9 => ?_)
  obtain ⟨hP, hD⟩ := cs_joinR hP hD hk1 hF2 hP1 hD1
  refine lv_istore (lv' := [(6, .int r8), (5, .int (cs_kAdj (xs (i + 1)) (xs (i + 2)) (xs (i + 3)))), (0, .ref b), (1, .ref (ad 0)), (2, .ref (bd 0)), (3, .ref o9), (4, .int (nI i))]) hx hb dL_law_1850 hl (by decide) rfl (fun ls hl => ?_)
  refine cs_tl C0 hP hl (fun h => by rw [hv h, hp h]) (by omega) (by omega) dL_law_1852 dL_law_1853 dL_law_1856 dL_law_1858 dL_law_1863 dL_law_1865 dL_law_1868 dL_law_1869 dL_law_1870 dL_law_1871 dL_law_1873 dL_law_1874 dL_law_1875 dL_law_1880 (by decide) ?_
  refine W.widen (k := cells + 5) (n := slots + 32) (by omega) (by omega) ?_
  exact kk S (cs_kAdj (xs (i + 1)) (xs (i + 2)) (xs (i + 3))) ad u9 H locs ls hok rfl ⟨hP, hD, hS9⟩ (lv_sub hl [2, 3, 4, 5, 6] rfl)
set_option maxHeartbeats 4000000 in
set_option maxRecDepth 100000 in
theorem lw_c_adlerRolled (hlf : l.stackTraces = false) (C0 : cs_C p l s m c b L xs D cy) {i a0 cells slots : Nat} {S : cs_St} {th : Int32} {ad bd : Nat → Nat} {o9 : Nat} {f : Nat → Int64} {H : Heap} {locs : List Loc} {ls : Array Slot} (hi : i + 7 ≤ L) (hc : cells + 5 ≤ 601024) (hs : slots + 32 ≤ 7293034) (hok : cs_okk S) (had : ad 0 = a0) (hLS : cs_LS D s H locs S th ad bd o9 f cy) (hl : lv_has ls 7 [(0, .ref b), (1, .ref a0), (2, .ref (bd 0)), (3, .ref o9), (4, .int (nI i))]) (kk : cs_KK p l e s m b below meth c Q D cy bd o9 a0 i (cells + 5) (slots + 32)) : W p l e room_1 s m #[.ref b] below meth c H locs cells slots Q (F0 m 1883 ls []) := by
  have hS := hok.1
  have C1 := C0
  obtain ⟨hx, hb, hml, -, hown, hts, -, -, -, hE, hn, hz0, hK⟩ := C1
  subst had
  obtain ⟨hP, hD, hS9⟩ := hLS
  have hPl : va_P D vwCl (cs_O o9 f S ad cy) H := cs_PL hP
  have hDl : va_D (fun q => s.heap.size ≤ q) (cs_O o9 f S ad cy) := cs_DL hD
  have hF : ∀ q, va_A (cs_O o9 f S ad cy) H.size q → (fun q => s.heap.size ≤ q) q := cs_inL hD hS9 (fun _ h => h)
  have hz : cs_zz (va_A (cs_O o9 f S ad cy) H.size) s H := (hz0.kept (fun a h1 h2 => hS9.2.1 a h1 h2)).narrow hF
  refine lv_aload_n hx hb dL_law_1883 rfl (lv_at hl 1 rfl) ?_
  refine cs_rd C0 hS9 hl 0 4 rfl rfl 1 (jj := 1) hi (by decide) (by decide) dL_law_1884 dL_law_1885 dL_law_1887 dL_law_1888 dL_law_1889 ?_
  refine cs_rd C0 hS9 hl 0 4 rfl rfl 2 (jj := 2) hi (by decide) (by decide) dL_law_1890 dL_law_1891 dL_law_1893 dL_law_1894 dL_law_1895 ?_
  refine cs_rd C0 hS9 hl 0 4 rfl rfl 3 (jj := 3) hi (by decide) (by decide) dL_law_1896 dL_law_1897 dL_law_1899 dL_law_1900 dL_law_1901 ?_
  refine cs_rd C0 hS9 hl 0 4 rfl rfl 4 (jj := 4) hi (by decide) (by decide) dL_law_1902 dL_law_1903 dL_law_1905 dL_law_1906 dL_law_1907 ?_
  refine lv_aload_n hx hb dL_law_1908 rfl (lv_at hl 3 rfl) ?_
  refine cs_wcalli (vx_runSW (As := [.ref (ad 0), .int (xs (i + 1)), .int (xs (i + 2)), .int (xs (i + 3)), .int (xs (i + 4)), .ref o9]) (rest := []) ⟨hx, hb, hml, hown, hts⟩ (k_L_adlerRolled l hlf D S ad cy o9 f H.size (xs (i + 1)) (xs (i + 2)) (xs (i + 3)) (xs (i + 4))) (vx_cwSW 6 hts gL_law_L_adlerRolled rfl rfl rfl (by decide +kernel) ⟨(Nat.le_of_ble_eq_true rfl), (Nat.le_of_ble_eq_true rfl)⟩) ⟨cs_Bl.blind, cs_Bl.at hn hE hz hPl hK hDl⟩ rfl rfl hl.1 rfl (lv_room (Nat.le_of_ble_eq_true rfl)) dL_law_1909 ⟨by show cells + 4 ≤ 601024; omega, by show slots + 24 ≤ 7293034; omega⟩) hS9 hF (fun r9 u9 H locs hp hP1 hD1 hz1 hk1 hS9 => ?_)
  obtain ⟨rfl, hv⟩ := hp
  obtain ⟨hP, hD⟩ := cs_joinL hP hD hk1 hF hP1 hD1
  refine lv_istore (lv' := [(5, .int (cs_kAdr (xs (i + 1)) (xs (i + 2)) (xs (i + 3)) (xs (i + 4)))), (0, .ref b), (1, .ref (ad 0)), (2, .ref (bd 0)), (3, .ref o9), (4, .int (nI i))]) hx hb dL_law_1912 hl (by decide) rfl (fun ls hl => ?_)
  refine lv_aload_n hx hb dL_law_1914 rfl (lv_at hl 3 rfl) ?_
  refine cs_rd C0 hS9 hl 1 5 rfl rfl 1 (jj := 1) hi (by decide) (by decide) dL_law_1915 dL_law_1916 dL_law_1918 dL_law_1919 dL_law_1920 ?_
  refine cs_rd C0 hS9 hl 1 5 rfl rfl 2 (jj := 2) hi (by decide) (by decide) dL_law_1921 dL_law_1922 dL_law_1924 dL_law_1925 dL_law_1926 ?_
  refine cs_rd C0 hS9 hl 1 5 rfl rfl 3 (jj := 3) hi (by decide) (by decide) dL_law_1927 dL_law_1928 dL_law_1930 dL_law_1931 dL_law_1932 ?_
  refine cs_rd C0 hS9 hl 1 5 rfl rfl 4 (jj := 4) hi (by decide) (by decide) dL_law_1933 dL_law_1934 dL_law_1936 dL_law_1937 dL_law_1938 ?_
  have hPR := cs_PR hP
  have hDR := cs_DR hD
  have hF2 : ∀ q, va_A (cs_R S th bd cy) H.size q → (fun q => s.heap.size ≤ q) q := cs_inR hD hS9 (fun _ h => h)
  refine cs_wcalli (va_runV (As := [.int (xs (i + 1)), .int (xs (i + 2)), .int (xs (i + 3)), .int (xs (i + 4))]) (rest := []) ⟨hx, hb, hml, hown, hts⟩ (k_X2_adlerRolled l D S th bd cy H.size (xs (i + 1)) (xs (i + 2)) (xs (i + 3)) (xs (i + 4))) (cwV 4 hts gL_law_X2_adlerRolled rfl rfl rfl (by decide +kernel) ⟨(Nat.le_of_ble_eq_true rfl), (Nat.le_of_ble_eq_true rfl)⟩) ⟨cs_Bw.blind, va_recv hK hPR (ci := 2) (q0 := 0) rfl rfl, cs_Bw.at hE hPR hK hDR⟩ rfl rfl hl.1 rfl (lv_room (Nat.le_of_ble_eq_true rfl)) dL_law_1939 ⟨by show cells + 4 + 0 ≤ 601024; omega, by show slots + 24 + 0 ≤ 7293034; omega⟩) hS9 hF2 (fun r8 u8 H locs hp hP1 hD1 hz1 hk1 hS9 => ?_)
  obtain ⟨hP, hD⟩ := cs_joinR hP hD hk1 hF2 hP1 hD1
  refine lv_istore (lv' := [(6, .int r8), (5, .int (cs_kAdr (xs (i + 1)) (xs (i + 2)) (xs (i + 3)) (xs (i + 4)))), (0, .ref b), (1, .ref (ad 0)), (2, .ref (bd 0)), (3, .ref o9), (4, .int (nI i))]) hx hb dL_law_1942 hl (by decide) rfl (fun ls hl => ?_)
  refine cs_tl C0 hP hl (fun h => by rw [hv h, hp h]) (by omega) (by omega) dL_law_1944 dL_law_1945 dL_law_1948 dL_law_1950 dL_law_1955 dL_law_1957 dL_law_1960 dL_law_1961 dL_law_1962 dL_law_1963 dL_law_1965 dL_law_1966 dL_law_1967 dL_law_1972 (by decide) ?_
  refine W.widen (k := cells + 5) (n := slots + 32) (by omega) (by omega) ?_
  exact kk S (cs_kAdr (xs (i + 1)) (xs (i + 2)) (xs (i + 3)) (xs (i + 4))) ad u9 H locs ls hok rfl ⟨hP, hD, hS9⟩ (lv_sub hl [2, 3, 4, 5, 6] rfl)
end CSLC
