/-! ===== the law: its calls, 4 ===== -/
set_option maxRecDepth 100000 in
set_option maxHeartbeats 4000000 in
theorem LC_24 {g : GP} {b L : Nat} {xs : Nat → Int32} {kk nn i q : Nat} {σ : AH} (hL : L < 1073741824) (hi : i + 6 < L) (hq : q < 512) (h : Rel q σ) (kt : ∀ σ', Rel (q + 1) σ' → V g mLaw (ELw b) (CXl g b L xs) kk nn 1987 [(0, .ref 1), (1, .ref 2), (2, .ref 33), (3, .ref 72), (4, .int (nI i))] [] σ') :
    V g mLaw (ELw b) (CXl g b L xs) (kk + 11) (nn + 94) 1536 [(0, .ref 1), (1, .ref 2), (2, .ref 33), (3, .ref 72), (4, .int (nI i))] [] σ := by
  refine V_aload_n dW_1536 rfl ?_
  refine V_aload_n dW_1537 rfl ?_
  refine V_iload dW_1538 rfl ?_
  refine V_iconst (1 : Int32) dW_1540 (by decide) ?_
  refine V_iadd dW_1541 ?_
  refine V_sldj (j := 1) rfl (by omega) hL dW_1542 ?_
  refine V_aload_n dW_1543 rfl ?_
  refine V_iload dW_1544 rfl ?_
  refine V_iconst (2 : Int32) dW_1546 (by decide) ?_
  refine V_iadd dW_1547 ?_
  refine V_sldj (j := 2) rfl (by omega) hL dW_1548 ?_
  refine V_aload_n dW_1549 rfl ?_
  refine V_callSH (as := [.ref 2, .int (xs (i + 1)), .int (xs (i + 2)), .ref 72]) (st := []) (k' := kk) (n' := nn) (R_ofTicket hq h) mw_L_ofTicket w_988 w_987 ar_L_ofTicket (rf_L rfl rfl rfl rfl rfl) dW_1550 (fun σ1 rv hq1 => ?_)
  obtain ⟨e, rfl, hS1, hm⟩ := hq1
  refine V_cast (st' := [.int e]) rfl rfl rfl ?_
  refine V_istore [(0, .ref 1), (1, .ref 2), (2, .ref 33), (3, .ref 72), (4, .int (nI i)), (5, .int e)] dW_1553 rfl rfl ?_
  refine V_aload_n dW_1555 rfl ?_
  refine V_aload_n dW_1556 rfl ?_
  refine V_iload dW_1557 rfl ?_
  refine V_iconst (1 : Int32) dW_1559 (by decide) ?_
  refine V_iadd dW_1560 ?_
  refine V_sldj (j := 1) rfl (by omega) hL dW_1561 ?_
  refine V_aload_n dW_1562 rfl ?_
  refine V_iload dW_1563 rfl ?_
  refine V_iconst (2 : Int32) dW_1565 (by decide) ?_
  refine V_iadd dW_1566 ?_
  refine V_sldj (j := 2) rfl (by omega) hL dW_1567 ?_
  refine V_callV (as := [.int (xs (i + 1)), .int (xs (i + 2))]) (st := []) (k' := kk) (n' := nn) hm mw_X12_ofTicket ko_X12 rfl w_1425 w_1426 w_1424 ar_X12_ofTicket (rf_M rfl rfl rfl rfl rfl) dW_1568 (by decide) (shk hS1 33 rfl) (fun σ2 rv hq2 => ?_)
  obtain ⟨e49, hR, d, rfl, hb⟩ := hq2
  refine V_cast (st' := [.int d]) rfl rfl rfl ?_
  refine V_istore [(0, .ref 1), (1, .ref 2), (2, .ref 33), (3, .ref 72), (4, .int (nI i)), (5, .int e), (6, .int d)] dW_1571 rfl rfl ?_
  refine V_aload_n dW_1573 rfl ?_
  refine V_callV1 (as := []) (st := []) (k' := kk) (n' := nn) (s_X12_thrown hR.2.1) mw_X12_thrown ko_X12 rfl w_1208 w_1209 w_1207 ar_X12_thrown rfl (rf_M rfl rfl rfl rfl rfl) dW_1574 (by decide) (shk hR.2.1 33 rfl) ?_
  refine V_iload dW_1577 rfl ?_
  refine V_icmp_eq 1584 dW_1579 rfl (fun _ => ?_) (fun c => absurd e49 c)
  refine V_iload dW_1584 rfl ?_
  refine V_if_ne 1601 dW_1586 rfl (fun _ => ?_) (fun ck => ?_)
  · refine V_goto 1987 dW_1601 rfl ?_
    exact V_less (fun q hq => List.mem_append_left [(5, .int e), (6, .int d)] hq) (Nat.le_refl _) (Nat.le_refl _) (kt σ2 hR)
  · refine V_aload_n dW_1589 rfl ?_
    refine V_iconst (0 : Int32) dW_1590 (by decide) ?_
    refine V_lald dW_1591 (by decide) (shk hR.2.1 72 rfl) (vp_l (n := 1) (shl hR.2.1 72 rfl) (vp_in_nI (n := 0) (by decide) (by decide))) ?_
    refine V_iload dW_1592 rfl ?_
    refine V_i2l dW_1594 ?_
    refine V_lcmp dW_1595 ?_
    refine V_if_eq 1601 dW_1596 rfl (fun _ => ?_) (fun c => absurd (lc_eq (hb ck)) c)
    refine V_goto 1987 dW_1601 rfl ?_
    exact V_less (fun q hq => List.mem_append_left [(5, .int e), (6, .int d)] hq) (Nat.le_refl _) (Nat.le_refl _) (kt σ2 hR)
set_option maxRecDepth 100000 in
set_option maxHeartbeats 4000000 in
theorem LC_25 {g : GP} {b L : Nat} {xs : Nat → Int32} {kk nn i q : Nat} {σ : AH} (hL : L < 1073741824) (hi : i + 6 < L) (hq : q < 512) (h : Rel q σ) (kt : ∀ σ', Rel (q + 1) σ' → V g mLaw (ELw b) (CXl g b L xs) kk nn 1987 [(0, .ref 1), (1, .ref 2), (2, .ref 33), (3, .ref 72), (4, .int (nI i))] [] σ') :
    V g mLaw (ELw b) (CXl g b L xs) (kk + 11) (nn + 94) 1604 [(0, .ref 1), (1, .ref 2), (2, .ref 33), (3, .ref 72), (4, .int (nI i))] [] σ := by
  refine V_aload_n dW_1604 rfl ?_
  refine V_aload_n dW_1605 rfl ?_
  refine V_iload dW_1606 rfl ?_
  refine V_iconst (1 : Int32) dW_1608 (by decide) ?_
  refine V_iadd dW_1609 ?_
  refine V_sldj (j := 1) rfl (by omega) hL dW_1610 ?_
  refine V_aload_n dW_1611 rfl ?_
  refine V_iload dW_1612 rfl ?_
  refine V_iconst (2 : Int32) dW_1614 (by decide) ?_
  refine V_iadd dW_1615 ?_
  refine V_sldj (j := 2) rfl (by omega) hL dW_1616 ?_
  refine V_aload_n dW_1617 rfl ?_
  refine V_iload dW_1618 rfl ?_
  refine V_iconst (3 : Int32) dW_1620 (by decide) ?_
  refine V_iadd dW_1621 ?_
  refine V_sldj (j := 3) rfl (by omega) hL dW_1622 ?_
  refine V_aload_n dW_1623 rfl ?_
  refine V_callSH (as := [.ref 2, .int (xs (i + 1)), .int (xs (i + 2)), .int (xs (i + 3)), .ref 72]) (st := []) (k' := kk) (n' := nn) (R_ofCoupon hq h) mw_L_ofCoupon w_996 w_995 ar_L_ofCoupon (rf_L rfl rfl rfl rfl rfl) dW_1624 (fun σ1 rv hq1 => ?_)
  obtain ⟨e, rfl, hS1, hm⟩ := hq1
  refine V_cast (st' := [.int e]) rfl rfl rfl ?_
  refine V_istore [(0, .ref 1), (1, .ref 2), (2, .ref 33), (3, .ref 72), (4, .int (nI i)), (5, .int e)] dW_1627 rfl rfl ?_
  refine V_aload_n dW_1629 rfl ?_
  refine V_aload_n dW_1630 rfl ?_
  refine V_iload dW_1631 rfl ?_
  refine V_iconst (1 : Int32) dW_1633 (by decide) ?_
  refine V_iadd dW_1634 ?_
  refine V_sldj (j := 1) rfl (by omega) hL dW_1635 ?_
  refine V_aload_n dW_1636 rfl ?_
  refine V_iload dW_1637 rfl ?_
  refine V_iconst (2 : Int32) dW_1639 (by decide) ?_
  refine V_iadd dW_1640 ?_
  refine V_sldj (j := 2) rfl (by omega) hL dW_1641 ?_
  refine V_aload_n dW_1642 rfl ?_
  refine V_iload dW_1643 rfl ?_
  refine V_iconst (3 : Int32) dW_1645 (by decide) ?_
  refine V_iadd dW_1646 ?_
  refine V_sldj (j := 3) rfl (by omega) hL dW_1647 ?_
  refine V_callV (as := [.int (xs (i + 1)), .int (xs (i + 2)), .int (xs (i + 3))]) (st := []) (k' := kk) (n' := nn) hm mw_X12_ofCoupon ko_X12 rfl w_1429 w_1430 w_1428 ar_X12_ofCoupon (rf_M rfl rfl rfl rfl rfl) dW_1648 (by decide) (shk hS1 33 rfl) (fun σ2 rv hq2 => ?_)
  obtain ⟨e49, hR, d, rfl, hb⟩ := hq2
  refine V_cast (st' := [.int d]) rfl rfl rfl ?_
  refine V_istore [(0, .ref 1), (1, .ref 2), (2, .ref 33), (3, .ref 72), (4, .int (nI i)), (5, .int e), (6, .int d)] dW_1651 rfl rfl ?_
  refine V_aload_n dW_1653 rfl ?_
  refine V_callV1 (as := []) (st := []) (k' := kk) (n' := nn) (s_X12_thrown hR.2.1) mw_X12_thrown ko_X12 rfl w_1208 w_1209 w_1207 ar_X12_thrown rfl (rf_M rfl rfl rfl rfl rfl) dW_1654 (by decide) (shk hR.2.1 33 rfl) ?_
  refine V_iload dW_1657 rfl ?_
  refine V_icmp_eq 1664 dW_1659 rfl (fun _ => ?_) (fun c => absurd e49 c)
  refine V_iload dW_1664 rfl ?_
  refine V_if_ne 1681 dW_1666 rfl (fun _ => ?_) (fun ck => ?_)
  · refine V_goto 1987 dW_1681 rfl ?_
    exact V_less (fun q hq => List.mem_append_left [(5, .int e), (6, .int d)] hq) (Nat.le_refl _) (Nat.le_refl _) (kt σ2 hR)
  · refine V_aload_n dW_1669 rfl ?_
    refine V_iconst (0 : Int32) dW_1670 (by decide) ?_
    refine V_lald dW_1671 (by decide) (shk hR.2.1 72 rfl) (vp_l (n := 1) (shl hR.2.1 72 rfl) (vp_in_nI (n := 0) (by decide) (by decide))) ?_
    refine V_iload dW_1672 rfl ?_
    refine V_i2l dW_1674 ?_
    refine V_lcmp dW_1675 ?_
    refine V_if_eq 1681 dW_1676 rfl (fun _ => ?_) (fun c => absurd (lc_eq (hb ck)) c)
    refine V_goto 1987 dW_1681 rfl ?_
    exact V_less (fun q hq => List.mem_append_left [(5, .int e), (6, .int d)] hq) (Nat.le_refl _) (Nat.le_refl _) (kt σ2 hR)
set_option maxRecDepth 100000 in
set_option maxHeartbeats 4000000 in
theorem LC_26 {g : GP} {b L : Nat} {xs : Nat → Int32} {kk nn i q : Nat} {σ : AH} (hL : L < 1073741824) (hi : i + 6 < L) (hq : q < 512) (h : Rel q σ) (kt : ∀ σ', Rel (q + 1) σ' → V g mLaw (ELw b) (CXl g b L xs) kk nn 1987 [(0, .ref 1), (1, .ref 2), (2, .ref 33), (3, .ref 72), (4, .int (nI i))] [] σ') :
    V g mLaw (ELw b) (CXl g b L xs) (kk + 11) (nn + 94) 1684 [(0, .ref 1), (1, .ref 2), (2, .ref 33), (3, .ref 72), (4, .int (nI i))] [] σ := by
  refine V_aload_n dW_1684 rfl ?_
  refine V_aload_n dW_1685 rfl ?_
  refine V_iload dW_1686 rfl ?_
  refine V_iconst (1 : Int32) dW_1688 (by decide) ?_
  refine V_iadd dW_1689 ?_
  refine V_sldj (j := 1) rfl (by omega) hL dW_1690 ?_
  refine V_aload_n dW_1691 rfl ?_
  refine V_iload dW_1692 rfl ?_
  refine V_iconst (2 : Int32) dW_1694 (by decide) ?_
  refine V_iadd dW_1695 ?_
  refine V_sldj (j := 2) rfl (by omega) hL dW_1696 ?_
  refine V_aload_n dW_1697 rfl ?_
  refine V_callSH (as := [.ref 2, .int (xs (i + 1)), .int (xs (i + 2)), .ref 72]) (st := []) (k' := kk) (n' := nn) (R_ofBill hq h) mw_L_ofBill w_1003 w_1002 ar_L_ofBill (rf_L rfl rfl rfl rfl rfl) dW_1698 (fun σ1 rv hq1 => ?_)
  obtain ⟨e, rfl, hS1, hm⟩ := hq1
  refine V_cast (st' := [.int e]) rfl rfl rfl ?_
  refine V_istore [(0, .ref 1), (1, .ref 2), (2, .ref 33), (3, .ref 72), (4, .int (nI i)), (5, .int e)] dW_1701 rfl rfl ?_
  refine V_aload_n dW_1703 rfl ?_
  refine V_aload_n dW_1704 rfl ?_
  refine V_iload dW_1705 rfl ?_
  refine V_iconst (1 : Int32) dW_1707 (by decide) ?_
  refine V_iadd dW_1708 ?_
  refine V_sldj (j := 1) rfl (by omega) hL dW_1709 ?_
  refine V_aload_n dW_1710 rfl ?_
  refine V_iload dW_1711 rfl ?_
  refine V_iconst (2 : Int32) dW_1713 (by decide) ?_
  refine V_iadd dW_1714 ?_
  refine V_sldj (j := 2) rfl (by omega) hL dW_1715 ?_
  refine V_callV (as := [.int (xs (i + 1)), .int (xs (i + 2))]) (st := []) (k' := kk) (n' := nn) hm mw_X12_ofBill ko_X12 rfl w_1433 w_1434 w_1432 ar_X12_ofBill (rf_M rfl rfl rfl rfl rfl) dW_1716 (by decide) (shk hS1 33 rfl) (fun σ2 rv hq2 => ?_)
  obtain ⟨e49, hR, d, rfl, hb⟩ := hq2
  refine V_cast (st' := [.int d]) rfl rfl rfl ?_
  refine V_istore [(0, .ref 1), (1, .ref 2), (2, .ref 33), (3, .ref 72), (4, .int (nI i)), (5, .int e), (6, .int d)] dW_1719 rfl rfl ?_
  refine V_aload_n dW_1721 rfl ?_
  refine V_callV1 (as := []) (st := []) (k' := kk) (n' := nn) (s_X12_thrown hR.2.1) mw_X12_thrown ko_X12 rfl w_1208 w_1209 w_1207 ar_X12_thrown rfl (rf_M rfl rfl rfl rfl rfl) dW_1722 (by decide) (shk hR.2.1 33 rfl) ?_
  refine V_iload dW_1725 rfl ?_
  refine V_icmp_eq 1732 dW_1727 rfl (fun _ => ?_) (fun c => absurd e49 c)
  refine V_iload dW_1732 rfl ?_
  refine V_if_ne 1749 dW_1734 rfl (fun _ => ?_) (fun ck => ?_)
  · refine V_goto 1987 dW_1749 rfl ?_
    exact V_less (fun q hq => List.mem_append_left [(5, .int e), (6, .int d)] hq) (Nat.le_refl _) (Nat.le_refl _) (kt σ2 hR)
  · refine V_aload_n dW_1737 rfl ?_
    refine V_iconst (0 : Int32) dW_1738 (by decide) ?_
    refine V_lald dW_1739 (by decide) (shk hR.2.1 72 rfl) (vp_l (n := 1) (shl hR.2.1 72 rfl) (vp_in_nI (n := 0) (by decide) (by decide))) ?_
    refine V_iload dW_1740 rfl ?_
    refine V_i2l dW_1742 ?_
    refine V_lcmp dW_1743 ?_
    refine V_if_eq 1749 dW_1744 rfl (fun _ => ?_) (fun c => absurd (lc_eq (hb ck)) c)
    refine V_goto 1987 dW_1749 rfl ?_
    exact V_less (fun q hq => List.mem_append_left [(5, .int e), (6, .int d)] hq) (Nat.le_refl _) (Nat.le_refl _) (kt σ2 hR)
set_option maxRecDepth 100000 in
set_option maxHeartbeats 4000000 in
theorem LC_27 {g : GP} {b L : Nat} {xs : Nat → Int32} {kk nn i q : Nat} {σ : AH} (hL : L < 1073741824) (hi : i + 6 < L) (hq : q < 512) (h : Rel q σ) (kt : ∀ σ', Rel (q + 1) σ' → V g mLaw (ELw b) (CXl g b L xs) kk nn 1987 [(0, .ref 1), (1, .ref 2), (2, .ref 33), (3, .ref 72), (4, .int (nI i))] [] σ') :
    V g mLaw (ELw b) (CXl g b L xs) (kk + 11) (nn + 94) 1752 [(0, .ref 1), (1, .ref 2), (2, .ref 33), (3, .ref 72), (4, .int (nI i))] [] σ := by
  refine V_aload_n dW_1752 rfl ?_
  refine V_aload_n dW_1753 rfl ?_
  refine V_iload dW_1754 rfl ?_
  refine V_iconst (1 : Int32) dW_1756 (by decide) ?_
  refine V_iadd dW_1757 ?_
  refine V_sldj (j := 1) rfl (by omega) hL dW_1758 ?_
  refine V_aload_n dW_1759 rfl ?_
  refine V_callSH (as := [.ref 2, .int (xs (i + 1)), .ref 72]) (st := []) (k' := kk) (n' := nn) (R_cash hq h) mw_L_cash w_1010 w_1009 ar_L_cash (rf_L rfl rfl rfl rfl rfl) dW_1760 (fun σ1 rv hq1 => ?_)
  obtain ⟨e, rfl, hS1, hm⟩ := hq1
  refine V_cast (st' := [.int e]) rfl rfl rfl ?_
  refine V_istore [(0, .ref 1), (1, .ref 2), (2, .ref 33), (3, .ref 72), (4, .int (nI i)), (5, .int e)] dW_1763 rfl rfl ?_
  refine V_aload_n dW_1765 rfl ?_
  refine V_aload_n dW_1766 rfl ?_
  refine V_iload dW_1767 rfl ?_
  refine V_iconst (1 : Int32) dW_1769 (by decide) ?_
  refine V_iadd dW_1770 ?_
  refine V_sldj (j := 1) rfl (by omega) hL dW_1771 ?_
  refine V_callV (as := [.int (xs (i + 1))]) (st := []) (k' := kk) (n' := nn) hm mw_X12_cash ko_X12 rfl w_1437 w_1438 w_1436 ar_X12_cash (rf_M rfl rfl rfl rfl rfl) dW_1772 (by decide) (shk hS1 33 rfl) (fun σ2 rv hq2 => ?_)
  obtain ⟨e49, hR, d, rfl, hb⟩ := hq2
  refine V_cast (st' := [.long d]) rfl rfl rfl ?_
  refine V_lstore [(0, .ref 1), (1, .ref 2), (2, .ref 33), (3, .ref 72), (4, .int (nI i)), (5, .int e), (6, .long d)] dW_1775 rfl rfl ?_
  refine V_aload_n dW_1777 rfl ?_
  refine V_callV1 (as := []) (st := []) (k' := kk) (n' := nn) (s_X12_thrown hR.2.1) mw_X12_thrown ko_X12 rfl w_1208 w_1209 w_1207 ar_X12_thrown rfl (rf_M rfl rfl rfl rfl rfl) dW_1778 (by decide) (shk hR.2.1 33 rfl) ?_
  refine V_iload dW_1781 rfl ?_
  refine V_icmp_eq 1788 dW_1783 rfl (fun _ => ?_) (fun c => absurd e49 c)
  refine V_iload dW_1788 rfl ?_
  refine V_if_ne 1804 dW_1790 rfl (fun _ => ?_) (fun ck => ?_)
  · refine V_goto 1987 dW_1804 rfl ?_
    exact V_less (fun q hq => List.mem_append_left [(5, .int e), (6, .long d)] hq) (Nat.le_refl _) (Nat.le_refl _) (kt σ2 hR)
  · refine V_aload_n dW_1793 rfl ?_
    refine V_iconst (0 : Int32) dW_1794 (by decide) ?_
    refine V_lald dW_1795 (by decide) (shk hR.2.1 72 rfl) (vp_l (n := 1) (shl hR.2.1 72 rfl) (vp_in_nI (n := 0) (by decide) (by decide))) ?_
    refine V_lload dW_1796 rfl ?_
    refine V_lcmp dW_1798 ?_
    refine V_if_eq 1804 dW_1799 rfl (fun _ => ?_) (fun c => absurd (lc_eq (hb ck)) c)
    refine V_goto 1987 dW_1804 rfl ?_
    exact V_less (fun q hq => List.mem_append_left [(5, .int e), (6, .long d)] hq) (Nat.le_refl _) (Nat.le_refl _) (kt σ2 hR)
set_option maxRecDepth 100000 in
set_option maxHeartbeats 4000000 in
theorem LC_28 {g : GP} {b L : Nat} {xs : Nat → Int32} {kk nn i q : Nat} {σ : AH} (hL : L < 1073741824) (hi : i + 6 < L) (hq : q < 512) (h : Rel q σ) (kt : ∀ σ', Rel (q + 1) σ' → V g mLaw (ELw b) (CXl g b L xs) kk nn 1987 [(0, .ref 1), (1, .ref 2), (2, .ref 33), (3, .ref 72), (4, .int (nI i))] [] σ') :
    V g mLaw (ELw b) (CXl g b L xs) (kk + 11) (nn + 94) 1807 [(0, .ref 1), (1, .ref 2), (2, .ref 33), (3, .ref 72), (4, .int (nI i))] [] σ := by
  refine V_aload_n dW_1807 rfl ?_
  refine V_aload_n dW_1808 rfl ?_
  refine V_iload dW_1809 rfl ?_
  refine V_iconst (1 : Int32) dW_1811 (by decide) ?_
  refine V_iadd dW_1812 ?_
  refine V_sldj (j := 1) rfl (by omega) hL dW_1813 ?_
  refine V_aload_n dW_1814 rfl ?_
  refine V_callSH (as := [.ref 2, .int (xs (i + 1)), .ref 72]) (st := []) (k' := kk) (n' := nn) (R_cashAnew hq h) mw_L_cashAnew w_1017 w_1016 ar_L_cashAnew (rf_L rfl rfl rfl rfl rfl) dW_1815 (fun σ1 rv hq1 => ?_)
  obtain ⟨e, rfl, hS1, hm⟩ := hq1
  refine V_cast (st' := [.int e]) rfl rfl rfl ?_
  refine V_istore [(0, .ref 1), (1, .ref 2), (2, .ref 33), (3, .ref 72), (4, .int (nI i)), (5, .int e)] dW_1818 rfl rfl ?_
  refine V_aload_n dW_1820 rfl ?_
  refine V_aload_n dW_1821 rfl ?_
  refine V_iload dW_1822 rfl ?_
  refine V_iconst (1 : Int32) dW_1824 (by decide) ?_
  refine V_iadd dW_1825 ?_
  refine V_sldj (j := 1) rfl (by omega) hL dW_1826 ?_
  refine V_callV (as := [.int (xs (i + 1))]) (st := []) (k' := kk) (n' := nn) hm mw_X12_cashAnew ko_X12 rfl w_1441 w_1442 w_1440 ar_X12_cashAnew (rf_M rfl rfl rfl rfl rfl) dW_1827 (by decide) (shk hS1 33 rfl) (fun σ2 rv hq2 => ?_)
  obtain ⟨e49, hR, d, rfl, hb⟩ := hq2
  refine V_cast (st' := [.long d]) rfl rfl rfl ?_
  refine V_lstore [(0, .ref 1), (1, .ref 2), (2, .ref 33), (3, .ref 72), (4, .int (nI i)), (5, .int e), (6, .long d)] dW_1830 rfl rfl ?_
  refine V_aload_n dW_1832 rfl ?_
  refine V_callV1 (as := []) (st := []) (k' := kk) (n' := nn) (s_X12_thrown hR.2.1) mw_X12_thrown ko_X12 rfl w_1208 w_1209 w_1207 ar_X12_thrown rfl (rf_M rfl rfl rfl rfl rfl) dW_1833 (by decide) (shk hR.2.1 33 rfl) ?_
  refine V_iload dW_1836 rfl ?_
  refine V_icmp_eq 1843 dW_1838 rfl (fun _ => ?_) (fun c => absurd e49 c)
  refine V_iload dW_1843 rfl ?_
  refine V_if_ne 1859 dW_1845 rfl (fun _ => ?_) (fun ck => ?_)
  · refine V_goto 1987 dW_1859 rfl ?_
    exact V_less (fun q hq => List.mem_append_left [(5, .int e), (6, .long d)] hq) (Nat.le_refl _) (Nat.le_refl _) (kt σ2 hR)
  · refine V_aload_n dW_1848 rfl ?_
    refine V_iconst (0 : Int32) dW_1849 (by decide) ?_
    refine V_lald dW_1850 (by decide) (shk hR.2.1 72 rfl) (vp_l (n := 1) (shl hR.2.1 72 rfl) (vp_in_nI (n := 0) (by decide) (by decide))) ?_
    refine V_lload dW_1851 rfl ?_
    refine V_lcmp dW_1853 ?_
    refine V_if_eq 1859 dW_1854 rfl (fun _ => ?_) (fun c => absurd (lc_eq (hb ck)) c)
    refine V_goto 1987 dW_1859 rfl ?_
    exact V_less (fun q hq => List.mem_append_left [(5, .int e), (6, .long d)] hq) (Nat.le_refl _) (Nat.le_refl _) (kt σ2 hR)
set_option maxRecDepth 100000 in
set_option maxHeartbeats 4000000 in
theorem LC_29 {g : GP} {b L : Nat} {xs : Nat → Int32} {kk nn i q : Nat} {σ : AH} (hL : L < 1073741824) (hi : i + 6 < L) (hq : q < 512) (h : Rel q σ) (kt : ∀ σ', Rel (q + 1) σ' → V g mLaw (ELw b) (CXl g b L xs) kk nn 1987 [(0, .ref 1), (1, .ref 2), (2, .ref 33), (3, .ref 72), (4, .int (nI i))] [] σ') :
    V g mLaw (ELw b) (CXl g b L xs) (kk + 11) (nn + 94) 1862 [(0, .ref 1), (1, .ref 2), (2, .ref 33), (3, .ref 72), (4, .int (nI i))] [] σ := by
  refine V_aload_n dW_1862 rfl ?_
  refine V_aload_n dW_1863 rfl ?_
  refine V_iload dW_1864 rfl ?_
  refine V_iconst (1 : Int32) dW_1866 (by decide) ?_
  refine V_iadd dW_1867 ?_
  refine V_sldj (j := 1) rfl (by omega) hL dW_1868 ?_
  refine V_aload_n dW_1869 rfl ?_
  refine V_callSH (as := [.ref 2, .int (xs (i + 1)), .ref 72]) (st := []) (k' := kk) (n' := nn) (R_state hq h) mw_L_state w_1036 w_1035 ar_L_state (rf_L rfl rfl rfl rfl rfl) dW_1870 (fun σ1 rv hq1 => ?_)
  obtain ⟨e, rfl, hS1, hm⟩ := hq1
  refine V_cast (st' := [.int e]) rfl rfl rfl ?_
  refine V_istore [(0, .ref 1), (1, .ref 2), (2, .ref 33), (3, .ref 72), (4, .int (nI i)), (5, .int e)] dW_1873 rfl rfl ?_
  refine V_aload_n dW_1875 rfl ?_
  refine V_aload_n dW_1876 rfl ?_
  refine V_iload dW_1877 rfl ?_
  refine V_iconst (1 : Int32) dW_1879 (by decide) ?_
  refine V_iadd dW_1880 ?_
  refine V_sldj (j := 1) rfl (by omega) hL dW_1881 ?_
  refine V_callV (as := [.int (xs (i + 1))]) (st := []) (k' := kk) (n' := nn) hm mw_X12_state ko_X12 rfl w_1446 w_1447 w_1445 ar_X12_state (rf_M rfl rfl rfl rfl rfl) dW_1882 (by decide) (shk hS1 33 rfl) (fun σ2 rv hq2 => ?_)
  obtain ⟨e49, hR, d, rfl, hb⟩ := hq2
  refine V_cast (st' := [.long d]) rfl rfl rfl ?_
  refine V_lstore [(0, .ref 1), (1, .ref 2), (2, .ref 33), (3, .ref 72), (4, .int (nI i)), (5, .int e), (6, .long d)] dW_1885 rfl rfl ?_
  refine V_aload_n dW_1887 rfl ?_
  refine V_callV1 (as := []) (st := []) (k' := kk) (n' := nn) (s_X12_thrown hR.2.1) mw_X12_thrown ko_X12 rfl w_1208 w_1209 w_1207 ar_X12_thrown rfl (rf_M rfl rfl rfl rfl rfl) dW_1888 (by decide) (shk hR.2.1 33 rfl) ?_
  refine V_iload dW_1891 rfl ?_
  refine V_icmp_eq 1898 dW_1893 rfl (fun _ => ?_) (fun c => absurd e49 c)
  refine V_iload dW_1898 rfl ?_
  refine V_if_ne 1914 dW_1900 rfl (fun _ => ?_) (fun ck => ?_)
  · refine V_goto 1987 dW_1914 rfl ?_
    exact V_less (fun q hq => List.mem_append_left [(5, .int e), (6, .long d)] hq) (Nat.le_refl _) (Nat.le_refl _) (kt σ2 hR)
  · refine V_aload_n dW_1903 rfl ?_
    refine V_iconst (0 : Int32) dW_1904 (by decide) ?_
    refine V_lald dW_1905 (by decide) (shk hR.2.1 72 rfl) (vp_l (n := 1) (shl hR.2.1 72 rfl) (vp_in_nI (n := 0) (by decide) (by decide))) ?_
    refine V_lload dW_1906 rfl ?_
    refine V_lcmp dW_1908 ?_
    refine V_if_eq 1914 dW_1909 rfl (fun _ => ?_) (fun c => absurd (lc_eq (hb ck)) c)
    refine V_goto 1987 dW_1914 rfl ?_
    exact V_less (fun q hq => List.mem_append_left [(5, .int e), (6, .long d)] hq) (Nat.le_refl _) (Nat.le_refl _) (kt σ2 hR)
set_option maxRecDepth 100000 in
set_option maxHeartbeats 4000000 in
theorem LC_30 {g : GP} {b L : Nat} {xs : Nat → Int32} {kk nn i q : Nat} {σ : AH} (hL : L < 1073741824) (hi : i + 6 < L) (hq : q < 512) (h : Rel q σ) (kt : ∀ σ', Rel (q + 1) σ' → V g mLaw (ELw b) (CXl g b L xs) kk nn 1987 [(0, .ref 1), (1, .ref 2), (2, .ref 33), (3, .ref 72), (4, .int (nI i))] [] σ') :
    V g mLaw (ELw b) (CXl g b L xs) (kk + 11) (nn + 94) 1917 [(0, .ref 1), (1, .ref 2), (2, .ref 33), (3, .ref 72), (4, .int (nI i))] [] σ := by
  refine V_aload_n dW_1917 rfl ?_
  refine V_callV (as := []) (st := []) (k' := kk) (n' := nn) (R_paid hq h) mw_X11_paid ko_X11 rfl w_427 w_428 w_426 ar_X11_paid (rf_L rfl rfl rfl rfl rfl) dW_1918 (by decide) (shk h.2.1 2 rfl) (fun σ1 rv hq1 => ?_)
  obtain ⟨e, rfl, hS1, hm⟩ := hq1
  refine V_cast (st' := [.long e]) rfl rfl rfl ?_
  refine V_aload_n dW_1921 rfl ?_
  refine V_callV (as := []) (st := [.long e]) (k' := kk) (n' := nn) hm mw_X12_paid ko_X12 rfl w_1450 w_1451 w_1449 ar_X12_paid (rf_M rfl rfl rfl rfl rfl) dW_1922 (by decide) (shk hS1 33 rfl) (fun σ2 rv hq2 => ?_)
  obtain ⟨rfl, hR⟩ := hq2
  refine V_cast (st' := [.long e, .long e]) rfl rfl rfl ?_
  refine V_lcmp dW_1925 ?_
  refine V_if_eq 1987 dW_1926 rfl (fun _ => ?_) (fun c => absurd (lc_eq rfl) c)
  exact V_less (fun q hq => List.mem_append_left [] hq) (Nat.le_refl _) (Nat.le_refl _) (kt σ2 hR)
set_option maxRecDepth 100000 in
set_option maxHeartbeats 4000000 in
theorem LC_31 {g : GP} {b L : Nat} {xs : Nat → Int32} {kk nn i q : Nat} {σ : AH} (hL : L < 1073741824) (hi : i + 6 < L) (hq : q < 512) (h : Rel q σ) (kt : ∀ σ', Rel (q + 1) σ' → V g mLaw (ELw b) (CXl g b L xs) kk nn 1987 [(0, .ref 1), (1, .ref 2), (2, .ref 33), (3, .ref 72), (4, .int (nI i))] [] σ') :
    V g mLaw (ELw b) (CXl g b L xs) (kk + 11) (nn + 94) 1931 [(0, .ref 1), (1, .ref 2), (2, .ref 33), (3, .ref 72), (4, .int (nI i))] [] σ := by
  refine V_aload_n dW_1931 rfl ?_
  refine V_aload_n dW_1932 rfl ?_
  refine V_iload dW_1933 rfl ?_
  refine V_iconst (1 : Int32) dW_1935 (by decide) ?_
  refine V_iadd dW_1936 ?_
  refine V_sldj (j := 1) rfl (by omega) hL dW_1937 ?_
  refine V_aload_n dW_1938 rfl ?_
  refine V_callSH (as := [.ref 2, .int (xs (i + 1)), .ref 72]) (st := []) (k' := kk) (n' := nn) (R_of hq h) mw_L_of w_1043 w_1042 ar_L_of (rf_L rfl rfl rfl rfl rfl) dW_1939 (fun σ1 rv hq1 => ?_)
  obtain ⟨e, rfl, hS1, hm⟩ := hq1
  refine V_cast (st' := [.int e]) rfl rfl rfl ?_
  refine V_istore [(0, .ref 1), (1, .ref 2), (2, .ref 33), (3, .ref 72), (4, .int (nI i)), (5, .int e)] dW_1942 rfl rfl ?_
  refine V_aload_n dW_1944 rfl ?_
  refine V_aload_n dW_1945 rfl ?_
  refine V_iload dW_1946 rfl ?_
  refine V_iconst (1 : Int32) dW_1948 (by decide) ?_
  refine V_iadd dW_1949 ?_
  refine V_sldj (j := 1) rfl (by omega) hL dW_1950 ?_
  refine V_callV (as := [.int (xs (i + 1))]) (st := []) (k' := kk) (n' := nn) hm mw_X12_of ko_X12 rfl w_1454 w_1455 w_1453 ar_X12_of (rf_M rfl rfl rfl rfl rfl) dW_1951 (by decide) (shk hS1 33 rfl) (fun σ2 rv hq2 => ?_)
  obtain ⟨e49, hR, d, rfl, hb⟩ := hq2
  refine V_cast (st' := [.int d]) rfl rfl rfl ?_
  refine V_istore [(0, .ref 1), (1, .ref 2), (2, .ref 33), (3, .ref 72), (4, .int (nI i)), (5, .int e), (6, .int d)] dW_1954 rfl rfl ?_
  refine V_aload_n dW_1956 rfl ?_
  refine V_callV1 (as := []) (st := []) (k' := kk) (n' := nn) (s_X12_thrown hR.2.1) mw_X12_thrown ko_X12 rfl w_1208 w_1209 w_1207 ar_X12_thrown rfl (rf_M rfl rfl rfl rfl rfl) dW_1957 (by decide) (shk hR.2.1 33 rfl) ?_
  refine V_iload dW_1960 rfl ?_
  refine V_icmp_eq 1967 dW_1962 rfl (fun _ => ?_) (fun c => absurd e49 c)
  refine V_iload dW_1967 rfl ?_
  refine V_if_ne 1984 dW_1969 rfl (fun _ => ?_) (fun ck => ?_)
  · refine V_goto 1987 dW_1984 rfl ?_
    exact V_less (fun q hq => List.mem_append_left [(5, .int e), (6, .int d)] hq) (Nat.le_refl _) (Nat.le_refl _) (kt σ2 hR)
  · refine V_aload_n dW_1972 rfl ?_
    refine V_iconst (0 : Int32) dW_1973 (by decide) ?_
    refine V_lald dW_1974 (by decide) (shk hR.2.1 72 rfl) (vp_l (n := 1) (shl hR.2.1 72 rfl) (vp_in_nI (n := 0) (by decide) (by decide))) ?_
    refine V_iload dW_1975 rfl ?_
    refine V_i2l dW_1977 ?_
    refine V_lcmp dW_1978 ?_
    refine V_if_eq 1984 dW_1979 rfl (fun _ => ?_) (fun c => absurd (lc_eq (hb ck)) c)
    refine V_goto 1987 dW_1984 rfl ?_
    exact V_less (fun q hq => List.mem_append_left [(5, .int e), (6, .int d)] hq) (Nat.le_refl _) (Nat.le_refl _) (kt σ2 hR)
