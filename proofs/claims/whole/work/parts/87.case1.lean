/-! the cases 20 to 38 of the law -/
section LC
variable {p : Program} {l : Launch} {e : Env} {s : State} {m : MethodId} {args : Array Value} {below : List Frame} {meth : Method} {c : Code} {D : va_G} {g : Nat → ClassId} {A : Nat → Prop} {Q : State → Prop} {cells slots : Nat}
variable {ad : Nat → Nat → Nat} {κ : CS} {X : XT} {cs : Nat → CT} {lf : Nat → Int64} {pr : PT} {o1 : Nat} {f1 : Nat → Int64} {am : Nat → Nat} {th : Int32} {ch : Nat → Nat} {cm rm : Nat} {row : Nat → Int64} {o2 : Nat} {f2 : Nat → UInt64} {b i Ln : Nat} {xs : Nat → Int32}
set_option maxHeartbeats 1000000 in
theorem lw_c20 (cx : CX p l s m args meth c RL cL_law ret 9 D g A) (htr : l.stackTraces = false) (hX : va_X b Ln xs s s.heap) (hbl : b < s.heap.size) (hbA : ¬ A b) (hLn : Ln ≤ 2560) (hi : i + 5 ≤ Ln) (hV : IV κ X) (hw : WV κ cs) (hk : κ.2.2.1 1 ≤ κ.2.2.1 0) (hd : κ.2.2.1 2 + 999 < 2147483648) (hc : cells + 20 ≤ room_1.cells) (hs : slots + 120 ≤ room_1.slots) (nx : NX p l e s m args below meth c D g A Q (cells + 20) (slots + 120) (κ.2.2.1 2 + 999) (ad 0 0) am b o1 o2 i) : J p l e room_1 s m args below meth c D A 9 Q cells slots (wW g ad κ X cs lf pr o1 f1 am κ th ch cm rm row o2 f2) (LL b (ad 0 0) (am 0) o1 o2 i) 1479 [] := by
  refine J_aload_n cx dL_law_1479 rfl 4 rfl ?_
  refine J_sget cx hX hbl hbA hLn (i := i) (k := 1) (by omega) 5 0 rfl rfl (by decide) dL_law_1480 dL_law_1481 dL_law_1483 dL_law_1484 dL_law_1485 ?_
  refine J_sget cx hX hbl hbA hLn (i := i) (k := 2) (by omega) 5 0 rfl rfl (by decide) dL_law_1486 dL_law_1487 dL_law_1489 dL_law_1490 dL_law_1491 ?_
  refine J_aload_n cx dL_law_1492 rfl 2 rfl ?_
  refine J_callHi cx kL_214 (As := [.ref (ad 0 0), .int (xs (i + 1)), .int (xs (i + 2)), .ref o1]) (frI (w := iW ad g κ X cs lf pr ++ oL o1 g f1) (wr := mW am g κ th ch cm rm row ++ oD o2 g f2) (W2 := fun (u : US) => wW g u.1 κ u.2.1 u.2.2.1 u.2.2.2.1 u.2.2.2.2.1 o1 u.2.2.2.2.2 am κ th ch cm rm row o2 f2) (List.Perm.refl _) (fun _ => List.Perm.refl _) (tL_candidateAt l D g _ ad κ X cs lf pr o1 f1 (xs (i + 1)) (xs (i + 2)) htr hV hw hk hd)) ⟨rfl, rfl, by decide, by decide⟩ ⟨by omega, by omega⟩ rfl rfl (Nat.le_of_ble_eq_true rfl) dL_law_1493 ?_
  intro r u hu
  rw [oc_A hV.2.1 hV.1 hV.2.2.1] at hu
  obtain ⟨hr, hc4, hval, hu0, hinv⟩ := hu
  refine J_istore cx (L' := (6, .int r) :: LL b (ad 0 0) (am 0) o1 o2 i) dL_law_1496 (by decide) rfl ?_
  refine J_aload_n cx dL_law_1498 rfl 4 rfl ?_
  refine J_sget cx hX hbl hbA hLn (i := i) (k := 1) (by omega) 6 1 rfl rfl (by decide) dL_law_1499 dL_law_1500 dL_law_1502 dL_law_1503 dL_law_1504 ?_
  refine J_sget cx hX hbl hbA hLn (i := i) (k := 2) (by omega) 6 1 rfl rfl (by decide) dL_law_1505 dL_law_1506 dL_law_1508 dL_law_1509 dL_law_1510 ?_
  refine J_callVi cx kL_216 (As := [.int (xs (i + 1)), .int (xs (i + 2))]) (frI (w := mW am g κ th ch cm rm row) (wr := (iW u.1 g κ u.2.1 u.2.2.1 u.2.2.2.1 u.2.2.2.2.1 ++ oL o1 g u.2.2.2.2.2) ++ oD o2 g f2) (W2 := fun _ => wW g u.1 κ u.2.1 u.2.2.1 u.2.2.2.1 u.2.2.2.2.1 o1 u.2.2.2.2.2 am κ (nI (opCandidateAt κ (xs (i + 1)) (xs (i + 2))).1) ch cm rm row o2 f2) (pm_m _ _ _) (fun _ => (pm_m _ _ _).symm) (tX7_candidateAt l D g _ am κ th ch cm rm row (xs (i + 1)) (xs (i + 2)) hV.1.1)) ⟨rfl, rfl, by decide, by decide⟩ ⟨by omega, by omega⟩ rfl (iW u.1 g κ u.2.1 u.2.2.1 u.2.2.2.1 u.2.2.2.2.1 ++ oL o1 g u.2.2.2.2.2).length (at_md rfl) rfl rfl (Nat.le_of_ble_eq_true rfl) dL_law_1511 ?_
  intro r9 _ hr9
  subst hr9
  refine J_istore cx (L' := (7, .int ((opCandidateAt κ (xs (i + 1)) (xs (i + 2))).2)) :: (6, .int r) :: LL b (ad 0 0) (am 0) o1 o2 i) dL_law_1514 (by decide) rfl ?_
  refine tl_I cx (cd := _) dL_law_1516 dL_law_1517 dL_law_1520 dL_law_1522 dL_law_1527 dL_law_1529 dL_law_1532 dL_law_1533 dL_law_1534 dL_law_1535 dL_law_1537 dL_law_1538 dL_law_1539 dL_law_1544 (by decide) hr.symm hr hc4 hval (by omega) (by omega) ?_
  have hx0 : u.1 0 0 = ad 0 0 := congrFun hu0 0
  exact J_widen (by omega) (by omega) (nx u.1 _ _ _ _ _ _ _ _ _ _ _ _ hx0 hinv (Nat.le_add_right _ _))
set_option maxHeartbeats 1000000 in
theorem lw_c21 (cx : CX p l s m args meth c RL cL_law ret 9 D g A) (htr : l.stackTraces = false) (hX : va_X b Ln xs s s.heap) (hbl : b < s.heap.size) (hbA : ¬ A b) (hLn : Ln ≤ 2560) (hi : i + 5 ≤ Ln) (hV : IV κ X) (hw : WV κ cs) (hk : κ.2.2.1 1 ≤ κ.2.2.1 0) (hd : κ.2.2.1 2 + 999 < 2147483648) (hc : cells + 20 ≤ room_1.cells) (hs : slots + 120 ≤ room_1.slots) (nx : NX p l e s m args below meth c D g A Q (cells + 20) (slots + 120) (κ.2.2.1 2 + 999) (ad 0 0) am b o1 o2 i) : J p l e room_1 s m args below meth c D A 9 Q cells slots (wW g ad κ X cs lf pr o1 f1 am κ th ch cm rm row o2 f2) (LL b (ad 0 0) (am 0) o1 o2 i) 1547 [] := by
  refine J_aload_n cx dL_law_1547 rfl 4 rfl ?_
  refine J_sget cx hX hbl hbA hLn (i := i) (k := 1) (by omega) 5 0 rfl rfl (by decide) dL_law_1548 dL_law_1549 dL_law_1551 dL_law_1552 dL_law_1553 ?_
  refine J_sget cx hX hbl hbA hLn (i := i) (k := 2) (by omega) 5 0 rfl rfl (by decide) dL_law_1554 dL_law_1555 dL_law_1557 dL_law_1558 dL_law_1559 ?_
  refine J_aload_n cx dL_law_1560 rfl 2 rfl ?_
  refine J_callHi cx kL_217 (As := [.ref (ad 0 0), .int (xs (i + 1)), .int (xs (i + 2)), .ref o1]) (frI (w := iW ad g κ X cs lf pr ++ oL o1 g f1) (wr := mW am g κ th ch cm rm row ++ oD o2 g f2) (W2 := fun (u : US) => wW g u.1 κ u.2.1 u.2.2.1 u.2.2.2.1 u.2.2.2.2.1 o1 u.2.2.2.2.2 am κ th ch cm rm row o2 f2) (List.Perm.refl _) (fun _ => List.Perm.refl _) (tL_chainSize l D g _ ad κ X cs lf pr o1 f1 (xs (i + 1)) (xs (i + 2)) htr hV hw hk hd)) ⟨rfl, rfl, by decide, by decide⟩ ⟨by omega, by omega⟩ rfl rfl (Nat.le_of_ble_eq_true rfl) dL_law_1561 ?_
  intro r u hu
  rw [oc_S hV.2.2.2.1 hV.1 hV.2.1 hV.2.2.1 hw.2.1 hw.2.2 ch] at hu
  obtain ⟨hr, hc4, hval, hu0, hinv⟩ := hu
  refine J_istore cx (L' := (6, .int r) :: LL b (ad 0 0) (am 0) o1 o2 i) dL_law_1564 (by decide) rfl ?_
  refine J_aload_n cx dL_law_1566 rfl 4 rfl ?_
  refine J_sget cx hX hbl hbA hLn (i := i) (k := 1) (by omega) 6 1 rfl rfl (by decide) dL_law_1567 dL_law_1568 dL_law_1570 dL_law_1571 dL_law_1572 ?_
  refine J_sget cx hX hbl hbA hLn (i := i) (k := 2) (by omega) 6 1 rfl rfl (by decide) dL_law_1573 dL_law_1574 dL_law_1576 dL_law_1577 dL_law_1578 ?_
  refine J_callVi cx kL_219 (As := [.int (xs (i + 1)), .int (xs (i + 2))]) (frI (w := mW am g κ th ch cm rm row) (wr := (iW u.1 g κ u.2.1 u.2.2.1 u.2.2.2.1 u.2.2.2.2.1 ++ oL o1 g u.2.2.2.2.2) ++ oD o2 g f2) (W2 := fun _ => wW g u.1 κ u.2.1 u.2.2.1 u.2.2.2.1 u.2.2.2.2.1 o1 u.2.2.2.2.2 am κ (nI (opChainSize κ ch (xs (i + 1)) (xs (i + 2))).1) (chCh κ ch (xs (i + 1)) (xs (i + 2))) cm rm row o2 f2) (pm_m _ _ _) (fun _ => (pm_m _ _ _).symm) (tX7_chainSize l D g _ am κ th ch cm rm row (xs (i + 1)) (xs (i + 2)) hV.2.2.2.1)) ⟨rfl, rfl, by decide, by decide⟩ ⟨by omega, by omega⟩ rfl (iW u.1 g κ u.2.1 u.2.2.1 u.2.2.2.1 u.2.2.2.2.1 ++ oL o1 g u.2.2.2.2.2).length (at_md rfl) rfl rfl (Nat.le_of_ble_eq_true rfl) dL_law_1579 ?_
  intro r9 _ hr9
  subst hr9
  refine J_istore cx (L' := (7, .int ((opChainSize κ ch (xs (i + 1)) (xs (i + 2))).2)) :: (6, .int r) :: LL b (ad 0 0) (am 0) o1 o2 i) dL_law_1582 (by decide) rfl ?_
  refine tl_I cx (cd := _) dL_law_1584 dL_law_1585 dL_law_1588 dL_law_1590 dL_law_1595 dL_law_1597 dL_law_1600 dL_law_1601 dL_law_1602 dL_law_1603 dL_law_1605 dL_law_1606 dL_law_1607 dL_law_1612 (by decide) hr.symm hr hc4 hval (by omega) (by omega) ?_
  have hx0 : u.1 0 0 = ad 0 0 := congrFun hu0 0
  exact J_widen (by omega) (by omega) (nx u.1 _ _ _ _ _ _ _ _ _ _ _ _ hx0 hinv (Nat.le_add_right _ _))
set_option maxHeartbeats 1000000 in
theorem lw_c22 (cx : CX p l s m args meth c RL cL_law ret 9 D g A) (htr : l.stackTraces = false) (hX : va_X b Ln xs s s.heap) (hbl : b < s.heap.size) (hbA : ¬ A b) (hLn : Ln ≤ 2560) (hi : i + 5 ≤ Ln) (hV : IV κ X) (hw : WV κ cs) (hk : κ.2.2.1 1 ≤ κ.2.2.1 0) (hd : κ.2.2.1 2 + 999 < 2147483648) (hc : cells + 20 ≤ room_1.cells) (hs : slots + 120 ≤ room_1.slots) (nx : NX p l e s m args below meth c D g A Q (cells + 20) (slots + 120) (κ.2.2.1 2 + 999) (ad 0 0) am b o1 o2 i) : J p l e room_1 s m args below meth c D A 9 Q cells slots (wW g ad κ X cs lf pr o1 f1 am κ th ch cm rm row o2 f2) (LL b (ad 0 0) (am 0) o1 o2 i) 1615 [] := by
  refine J_aload_n cx dL_law_1615 rfl 4 rfl ?_
  refine J_sget cx hX hbl hbA hLn (i := i) (k := 1) (by omega) 5 0 rfl rfl (by decide) dL_law_1616 dL_law_1617 dL_law_1619 dL_law_1620 dL_law_1621 ?_
  refine J_sget cx hX hbl hbA hLn (i := i) (k := 2) (by omega) 5 0 rfl rfl (by decide) dL_law_1622 dL_law_1623 dL_law_1625 dL_law_1626 dL_law_1627 ?_
  refine J_sget cx hX hbl hbA hLn (i := i) (k := 3) (by omega) 5 0 rfl rfl (by decide) dL_law_1628 dL_law_1629 dL_law_1631 dL_law_1632 dL_law_1633 ?_
  refine J_aload_n cx dL_law_1634 rfl 2 rfl ?_
  refine J_callHi cx kL_220 (As := [.ref (ad 0 0), .int (xs (i + 1)), .int (xs (i + 2)), .int (xs (i + 3)), .ref o1]) (frI (w := iW ad g κ X cs lf pr ++ oL o1 g f1) (wr := mW am g κ th ch cm rm row ++ oD o2 g f2) (W2 := fun (u : US) => wW g u.1 κ u.2.1 u.2.2.1 u.2.2.2.1 u.2.2.2.2.1 o1 u.2.2.2.2.2 am κ th ch cm rm row o2 f2) (List.Perm.refl _) (fun _ => List.Perm.refl _) (tL_chainAt l D g _ ad κ X cs lf pr o1 f1 (xs (i + 1)) (xs (i + 2)) (xs (i + 3)) htr hV hw hk hd)) ⟨rfl, rfl, by decide, by decide⟩ ⟨by omega, by omega⟩ rfl rfl (Nat.le_of_ble_eq_true rfl) dL_law_1635 ?_
  intro r u hu
  rw [oc_T hV.2.2.2.1 hV.1 hV.2.1 hV.2.2.1 hw.2.1 hw.2.2 ch] at hu
  obtain ⟨hr, hc4, hval, hu0, hinv⟩ := hu
  refine J_istore cx (L' := (6, .int r) :: LL b (ad 0 0) (am 0) o1 o2 i) dL_law_1638 (by decide) rfl ?_
  refine J_aload_n cx dL_law_1640 rfl 4 rfl ?_
  refine J_sget cx hX hbl hbA hLn (i := i) (k := 1) (by omega) 6 1 rfl rfl (by decide) dL_law_1641 dL_law_1642 dL_law_1644 dL_law_1645 dL_law_1646 ?_
  refine J_sget cx hX hbl hbA hLn (i := i) (k := 2) (by omega) 6 1 rfl rfl (by decide) dL_law_1647 dL_law_1648 dL_law_1650 dL_law_1651 dL_law_1652 ?_
  refine J_sget cx hX hbl hbA hLn (i := i) (k := 3) (by omega) 6 1 rfl rfl (by decide) dL_law_1653 dL_law_1654 dL_law_1656 dL_law_1657 dL_law_1658 ?_
  refine J_callVi cx kL_222 (As := [.int (xs (i + 1)), .int (xs (i + 2)), .int (xs (i + 3))]) (frI (w := mW am g κ th ch cm rm row) (wr := (iW u.1 g κ u.2.1 u.2.2.1 u.2.2.2.1 u.2.2.2.2.1 ++ oL o1 g u.2.2.2.2.2) ++ oD o2 g f2) (W2 := fun _ => wW g u.1 κ u.2.1 u.2.2.1 u.2.2.2.1 u.2.2.2.2.1 o1 u.2.2.2.2.2 am κ (nI (opChainAt κ ch (xs (i + 1)) (xs (i + 2)) (xs (i + 3))).1) (chCh κ ch (xs (i + 1)) (xs (i + 2))) cm rm row o2 f2) (pm_m _ _ _) (fun _ => (pm_m _ _ _).symm) (tX7_chainAt l D g _ am κ th ch cm rm row (xs (i + 1)) (xs (i + 2)) (xs (i + 3)) hV.2.2.2.1)) ⟨rfl, rfl, by decide, by decide⟩ ⟨by omega, by omega⟩ rfl (iW u.1 g κ u.2.1 u.2.2.1 u.2.2.2.1 u.2.2.2.2.1 ++ oL o1 g u.2.2.2.2.2).length (at_md rfl) rfl rfl (Nat.le_of_ble_eq_true rfl) dL_law_1659 ?_
  intro r9 _ hr9
  subst hr9
  refine J_istore cx (L' := (7, .int ((opChainAt κ ch (xs (i + 1)) (xs (i + 2)) (xs (i + 3))).2)) :: (6, .int r) :: LL b (ad 0 0) (am 0) o1 o2 i) dL_law_1662 (by decide) rfl ?_
  refine tl_I cx (cd := _) dL_law_1664 dL_law_1665 dL_law_1668 dL_law_1670 dL_law_1675 dL_law_1677 dL_law_1680 dL_law_1681 dL_law_1682 dL_law_1683 dL_law_1685 dL_law_1686 dL_law_1687 dL_law_1692 (by decide) hr.symm hr hc4 hval (by omega) (by omega) ?_
  have hx0 : u.1 0 0 = ad 0 0 := congrFun hu0 0
  exact J_widen (by omega) (by omega) (nx u.1 _ _ _ _ _ _ _ _ _ _ _ _ hx0 hinv (Nat.le_add_right _ _))
set_option maxHeartbeats 1000000 in
theorem lw_c23 (cx : CX p l s m args meth c RL cL_law ret 9 D g A) (htr : l.stackTraces = false) (hX : va_X b Ln xs s s.heap) (hbl : b < s.heap.size) (hbA : ¬ A b) (hLn : Ln ≤ 2560) (hi : i + 5 ≤ Ln) (hV : IV κ X) (hw : WV κ cs) (hk : κ.2.2.1 1 ≤ κ.2.2.1 0) (hd : κ.2.2.1 2 + 999 < 2147483648) (hc : cells + 20 ≤ room_1.cells) (hs : slots + 120 ≤ room_1.slots) (nx : NX p l e s m args below meth c D g A Q (cells + 20) (slots + 120) (κ.2.2.1 2 + 999) (ad 0 0) am b o1 o2 i) : J p l e room_1 s m args below meth c D A 9 Q cells slots (wW g ad κ X cs lf pr o1 f1 am κ th ch cm rm row o2 f2) (LL b (ad 0 0) (am 0) o1 o2 i) 1695 [] := by
  refine J_aload_n cx dL_law_1695 rfl 4 rfl ?_
  refine J_sget cx hX hbl hbA hLn (i := i) (k := 1) (by omega) 5 0 rfl rfl (by decide) dL_law_1696 dL_law_1697 dL_law_1699 dL_law_1700 dL_law_1701 ?_
  refine J_sget cx hX hbl hbA hLn (i := i) (k := 2) (by omega) 5 0 rfl rfl (by decide) dL_law_1702 dL_law_1703 dL_law_1705 dL_law_1706 dL_law_1707 ?_
  refine J_aload_n cx dL_law_1708 rfl 2 rfl ?_
  refine J_callHi cx kL_223 (As := [.ref (ad 0 0), .int (xs (i + 1)), .int (xs (i + 2)), .ref o1]) (frI (w := iW ad g κ X cs lf pr ++ oL o1 g f1) (wr := mW am g κ th ch cm rm row ++ oD o2 g f2) (W2 := fun (u : US) => wW g u.1 κ u.2.1 u.2.2.1 u.2.2.2.1 u.2.2.2.2.1 o1 u.2.2.2.2.2 am κ th ch cm rm row o2 f2) (List.Perm.refl _) (fun _ => List.Perm.refl _) (tL_goodChains l D g _ ad κ X cs lf pr o1 f1 (xs (i + 1)) (xs (i + 2)) htr hV hw hk hd)) ⟨rfl, rfl, by decide, by decide⟩ ⟨by omega, by omega⟩ rfl rfl (Nat.le_of_ble_eq_true rfl) dL_law_1709 ?_
  intro r u hu
  rw [oc_G hV.2.2.2.1 hV.1 hV.2.1 hV.2.2.1 hw.2.1 ch] at hu
  obtain ⟨hr, hc4, hval, hu0, hinv⟩ := hu
  refine J_istore cx (L' := (6, .int r) :: LL b (ad 0 0) (am 0) o1 o2 i) dL_law_1712 (by decide) rfl ?_
  refine J_aload_n cx dL_law_1714 rfl 4 rfl ?_
  refine J_sget cx hX hbl hbA hLn (i := i) (k := 1) (by omega) 6 1 rfl rfl (by decide) dL_law_1715 dL_law_1716 dL_law_1718 dL_law_1719 dL_law_1720 ?_
  refine J_sget cx hX hbl hbA hLn (i := i) (k := 2) (by omega) 6 1 rfl rfl (by decide) dL_law_1721 dL_law_1722 dL_law_1724 dL_law_1725 dL_law_1726 ?_
  refine J_callVi cx kL_225 (As := [.int (xs (i + 1)), .int (xs (i + 2))]) (frI (w := mW am g κ th ch cm rm row) (wr := (iW u.1 g κ u.2.1 u.2.2.1 u.2.2.2.1 u.2.2.2.2.1 ++ oL o1 g u.2.2.2.2.2) ++ oD o2 g f2) (W2 := fun _ => wW g u.1 κ u.2.1 u.2.2.1 u.2.2.2.1 u.2.2.2.2.1 o1 u.2.2.2.2.2 am κ (nI (opGood κ ch (xs (i + 1)) (xs (i + 2))).1) (chGd κ ch (xs (i + 1)) (xs (i + 2))) (cmGd κ ch cm (xs (i + 1)) (xs (i + 2))) rm row o2 f2) (pm_m _ _ _) (fun _ => (pm_m _ _ _).symm) (tX7_goodChains l D g _ am κ th ch cm rm row (xs (i + 1)) (xs (i + 2)) hV.2.2.2.1)) ⟨rfl, rfl, by decide, by decide⟩ ⟨by omega, by omega⟩ rfl (iW u.1 g κ u.2.1 u.2.2.1 u.2.2.2.1 u.2.2.2.2.1 ++ oL o1 g u.2.2.2.2.2).length (at_md rfl) rfl rfl (Nat.le_of_ble_eq_true rfl) dL_law_1727 ?_
  intro r9 _ hr9
  subst hr9
  refine J_istore cx (L' := (7, .int ((opGood κ ch (xs (i + 1)) (xs (i + 2))).2)) :: (6, .int r) :: LL b (ad 0 0) (am 0) o1 o2 i) dL_law_1730 (by decide) rfl ?_
  refine tl_I cx (cd := _) dL_law_1732 dL_law_1733 dL_law_1736 dL_law_1738 dL_law_1743 dL_law_1745 dL_law_1748 dL_law_1749 dL_law_1750 dL_law_1751 dL_law_1753 dL_law_1754 dL_law_1755 dL_law_1760 (by decide) hr.symm hr hc4 hval (by omega) (by omega) ?_
  have hx0 : u.1 0 0 = ad 0 0 := congrFun hu0 0
  exact J_widen (by omega) (by omega) (nx u.1 _ _ _ _ _ _ _ _ _ _ _ _ hx0 hinv (Nat.le_add_right _ _))
set_option maxHeartbeats 1000000 in
theorem lw_c24 (cx : CX p l s m args meth c RL cL_law ret 9 D g A) (htr : l.stackTraces = false) (hX : va_X b Ln xs s s.heap) (hbl : b < s.heap.size) (hbA : ¬ A b) (hLn : Ln ≤ 2560) (hi : i + 5 ≤ Ln) (hV : IV κ X) (hw : WV κ cs) (hk : κ.2.2.1 1 ≤ κ.2.2.1 0) (hd : κ.2.2.1 2 + 999 < 2147483648) (hc : cells + 20 ≤ room_1.cells) (hs : slots + 120 ≤ room_1.slots) (nx : NX p l e s m args below meth c D g A Q (cells + 20) (slots + 120) (κ.2.2.1 2 + 999) (ad 0 0) am b o1 o2 i) : J p l e room_1 s m args below meth c D A 9 Q cells slots (wW g ad κ X cs lf pr o1 f1 am κ th ch cm rm row o2 f2) (LL b (ad 0 0) (am 0) o1 o2 i) 1763 [] := by
  refine J_aload_n cx dL_law_1763 rfl 4 rfl ?_
  refine J_sget cx hX hbl hbA hLn (i := i) (k := 1) (by omega) 5 0 rfl rfl (by decide) dL_law_1764 dL_law_1765 dL_law_1767 dL_law_1768 dL_law_1769 ?_
  refine J_sget cx hX hbl hbA hLn (i := i) (k := 2) (by omega) 5 0 rfl rfl (by decide) dL_law_1770 dL_law_1771 dL_law_1773 dL_law_1774 dL_law_1775 ?_
  refine J_aload_n cx dL_law_1776 rfl 2 rfl ?_
  refine J_callHi cx kL_226 (As := [.ref (ad 0 0), .int (xs (i + 1)), .int (xs (i + 2)), .ref o1]) (frI (w := iW ad g κ X cs lf pr ++ oL o1 g f1) (wr := mW am g κ th ch cm rm row ++ oD o2 g f2) (W2 := fun (u : US) => wW g u.1 κ u.2.1 u.2.2.1 u.2.2.2.1 u.2.2.2.2.1 o1 u.2.2.2.2.2 am κ th ch cm rm row o2 f2) (List.Perm.refl _) (fun _ => List.Perm.refl _) (tL_goodChainsByWalks l D g _ ad κ X cs lf pr o1 f1 (xs (i + 1)) (xs (i + 2)) htr hV hw hk hd)) ⟨rfl, rfl, by decide, by decide⟩ ⟨by omega, by omega⟩ rfl rfl (Nat.le_of_ble_eq_true rfl) dL_law_1777 ?_
  intro r u hu
  rw [oc_H hV.2.2.2.1 hV.1 hV.2.1 hV.2.2.1 hw.2.1 ch] at hu
  obtain ⟨hr, hc4, hval, hu0, hinv⟩ := hu
  refine J_istore cx (L' := (6, .int r) :: LL b (ad 0 0) (am 0) o1 o2 i) dL_law_1780 (by decide) rfl ?_
  refine J_aload_n cx dL_law_1782 rfl 4 rfl ?_
  refine J_sget cx hX hbl hbA hLn (i := i) (k := 1) (by omega) 6 1 rfl rfl (by decide) dL_law_1783 dL_law_1784 dL_law_1786 dL_law_1787 dL_law_1788 ?_
  refine J_sget cx hX hbl hbA hLn (i := i) (k := 2) (by omega) 6 1 rfl rfl (by decide) dL_law_1789 dL_law_1790 dL_law_1792 dL_law_1793 dL_law_1794 ?_
  refine J_callVi cx kL_228 (As := [.int (xs (i + 1)), .int (xs (i + 2))]) (frI (w := mW am g κ th ch cm rm row) (wr := (iW u.1 g κ u.2.1 u.2.2.1 u.2.2.2.1 u.2.2.2.2.1 ++ oL o1 g u.2.2.2.2.2) ++ oD o2 g f2) (W2 := fun _ => wW g u.1 κ u.2.1 u.2.2.1 u.2.2.2.1 u.2.2.2.2.1 o1 u.2.2.2.2.2 am κ (nI (opGood κ ch (xs (i + 1)) (xs (i + 2))).1) (chGd κ ch (xs (i + 1)) (xs (i + 2))) (cmGd κ ch cm (xs (i + 1)) (xs (i + 2))) rm row o2 f2) (pm_m _ _ _) (fun _ => (pm_m _ _ _).symm) (tX7_goodChainsByWalks l D g _ am κ th ch cm rm row (xs (i + 1)) (xs (i + 2)) hV.2.2.2.1)) ⟨rfl, rfl, by decide, by decide⟩ ⟨by omega, by omega⟩ rfl (iW u.1 g κ u.2.1 u.2.2.1 u.2.2.2.1 u.2.2.2.2.1 ++ oL o1 g u.2.2.2.2.2).length (at_md rfl) rfl rfl (Nat.le_of_ble_eq_true rfl) dL_law_1795 ?_
  intro r9 _ hr9
  subst hr9
  refine J_istore cx (L' := (7, .int ((opGood κ ch (xs (i + 1)) (xs (i + 2))).2)) :: (6, .int r) :: LL b (ad 0 0) (am 0) o1 o2 i) dL_law_1798 (by decide) rfl ?_
  refine tl_I cx (cd := _) dL_law_1800 dL_law_1801 dL_law_1804 dL_law_1806 dL_law_1811 dL_law_1813 dL_law_1816 dL_law_1817 dL_law_1818 dL_law_1819 dL_law_1821 dL_law_1822 dL_law_1823 dL_law_1828 (by decide) hr.symm hr hc4 hval (by omega) (by omega) ?_
  have hx0 : u.1 0 0 = ad 0 0 := congrFun hu0 0
  exact J_widen (by omega) (by omega) (nx u.1 _ _ _ _ _ _ _ _ _ _ _ _ hx0 hinv (Nat.le_add_right _ _))
set_option maxHeartbeats 1000000 in
theorem lw_c25 (cx : CX p l s m args meth c RL cL_law ret 9 D g A) (htr : l.stackTraces = false) (hX : va_X b Ln xs s s.heap) (hbl : b < s.heap.size) (hbA : ¬ A b) (hLn : Ln ≤ 2560) (hi : i + 5 ≤ Ln) (hV : IV κ X) (hw : WV κ cs) (hk : κ.2.2.1 1 ≤ κ.2.2.1 0) (hd : κ.2.2.1 2 + 999 < 2147483648) (hc : cells + 20 ≤ room_1.cells) (hs : slots + 120 ≤ room_1.slots) (nx : NX p l e s m args below meth c D g A Q (cells + 20) (slots + 120) (κ.2.2.1 2 + 999) (ad 0 0) am b o1 o2 i) : J p l e room_1 s m args below meth c D A 9 Q cells slots (wW g ad κ X cs lf pr o1 f1 am κ th ch cm rm row o2 f2) (LL b (ad 0 0) (am 0) o1 o2 i) 1831 [] := by
  refine J_aload_n cx dL_law_1831 rfl 4 rfl ?_
  refine J_sget cx hX hbl hbA hLn (i := i) (k := 1) (by omega) 5 0 rfl rfl (by decide) dL_law_1832 dL_law_1833 dL_law_1835 dL_law_1836 dL_law_1837 ?_
  refine J_sget cx hX hbl hbA hLn (i := i) (k := 2) (by omega) 5 0 rfl rfl (by decide) dL_law_1838 dL_law_1839 dL_law_1841 dL_law_1842 dL_law_1843 ?_
  refine J_aload_n cx dL_law_1844 rfl 2 rfl ?_
  refine J_callHi cx kL_229 (As := [.ref (ad 0 0), .int (xs (i + 1)), .int (xs (i + 2)), .ref o1]) (frI (w := iW ad g κ X cs lf pr ++ oL o1 g f1) (wr := mW am g κ th ch cm rm row ++ oD o2 g f2) (W2 := fun (u : US) => wW g u.1 ((opBegin κ (xs (i + 1)) (xs (i + 2))).2.2) u.2.1 u.2.2.1 u.2.2.2.1 u.2.2.2.2.1 o1 u.2.2.2.2.2 am κ th ch cm rm row o2 f2) (List.Perm.refl _) (fun _ => List.Perm.refl _) (tL_begin l D g _ ad κ X cs lf pr o1 f1 (xs (i + 1)) (xs (i + 2)) htr hV hw hk hd)) ⟨rfl, rfl, by decide, by decide⟩ ⟨by omega, by omega⟩ rfl rfl (Nat.le_of_ble_eq_true rfl) dL_law_1845 ?_
  intro r u hu
  obtain ⟨hr, hc4, hval, hu0, hinv⟩ := hu
  refine J_istore cx (L' := (6, .int r) :: LL b (ad 0 0) (am 0) o1 o2 i) dL_law_1848 (by decide) rfl ?_
  refine J_aload_n cx dL_law_1850 rfl 4 rfl ?_
  refine J_sget cx hX hbl hbA hLn (i := i) (k := 1) (by omega) 6 1 rfl rfl (by decide) dL_law_1851 dL_law_1852 dL_law_1854 dL_law_1855 dL_law_1856 ?_
  refine J_sget cx hX hbl hbA hLn (i := i) (k := 2) (by omega) 6 1 rfl rfl (by decide) dL_law_1857 dL_law_1858 dL_law_1860 dL_law_1861 dL_law_1862 ?_
  refine J_callVi cx kL_231 (As := [.int (xs (i + 1)), .int (xs (i + 2))]) (frI (w := mW am g κ th ch cm rm row) (wr := (iW u.1 g ((opBegin κ (xs (i + 1)) (xs (i + 2))).2.2) u.2.1 u.2.2.1 u.2.2.2.1 u.2.2.2.2.1 ++ oL o1 g u.2.2.2.2.2) ++ oD o2 g f2) (W2 := fun _ => wW g u.1 ((opBegin κ (xs (i + 1)) (xs (i + 2))).2.2) u.2.1 u.2.2.1 u.2.2.2.1 u.2.2.2.2.1 o1 u.2.2.2.2.2 am ((opBegin κ (xs (i + 1)) (xs (i + 2))).2.2) (nI (opBegin κ (xs (i + 1)) (xs (i + 2))).1) ch cm rm row o2 f2) (pm_m _ _ _) (fun _ => (pm_m _ _ _).symm) (tX7_begin l D g _ am κ th ch cm rm row (xs (i + 1)) (xs (i + 2)) hV.1.1)) ⟨rfl, rfl, by decide, by decide⟩ ⟨by omega, by omega⟩ rfl (iW u.1 g ((opBegin κ (xs (i + 1)) (xs (i + 2))).2.2) u.2.1 u.2.2.1 u.2.2.2.1 u.2.2.2.2.1 ++ oL o1 g u.2.2.2.2.2).length (at_md rfl) rfl rfl (Nat.le_of_ble_eq_true rfl) dL_law_1863 ?_
  intro r9 _ hr9
  subst hr9
  refine J_istore cx (L' := (7, .int ((opBegin κ (xs (i + 1)) (xs (i + 2))).2.1)) :: (6, .int r) :: LL b (ad 0 0) (am 0) o1 o2 i) dL_law_1866 (by decide) rfl ?_
  refine tl_I cx (cd := _) dL_law_1868 dL_law_1869 dL_law_1872 dL_law_1874 dL_law_1879 dL_law_1881 dL_law_1884 dL_law_1885 dL_law_1886 dL_law_1887 dL_law_1889 dL_law_1890 dL_law_1891 dL_law_1896 (by decide) hr.symm hr hc4 hval (by omega) (by omega) ?_
  have hx0 : u.1 0 0 = ad 0 0 := congrFun hu0 0
  exact J_widen (by omega) (by omega) (nx u.1 _ _ _ _ _ _ _ _ _ _ _ _ hx0 hinv (dy_begin hV.1.1))
set_option maxHeartbeats 1000000 in
theorem lw_c26 (cx : CX p l s m args meth c RL cL_law ret 9 D g A) (htr : l.stackTraces = false) (hX : va_X b Ln xs s s.heap) (hbl : b < s.heap.size) (hbA : ¬ A b) (hLn : Ln ≤ 2560) (hi : i + 5 ≤ Ln) (hV : IV κ X) (hw : WV κ cs) (hk : κ.2.2.1 1 ≤ κ.2.2.1 0) (hd : κ.2.2.1 2 + 999 < 2147483648) (hc : cells + 20 ≤ room_1.cells) (hs : slots + 120 ≤ room_1.slots) (nx : NX p l e s m args below meth c D g A Q (cells + 20) (slots + 120) (κ.2.2.1 2 + 999) (ad 0 0) am b o1 o2 i) : J p l e room_1 s m args below meth c D A 9 Q cells slots (wW g ad κ X cs lf pr o1 f1 am κ th ch cm rm row o2 f2) (LL b (ad 0 0) (am 0) o1 o2 i) 1899 [] := by
  refine J_aload_n cx dL_law_1899 rfl 4 rfl ?_
  refine J_sget cx hX hbl hbA hLn (i := i) (k := 1) (by omega) 5 0 rfl rfl (by decide) dL_law_1900 dL_law_1901 dL_law_1903 dL_law_1904 dL_law_1905 ?_
  refine J_aload_n cx dL_law_1906 rfl 2 rfl ?_
  refine J_callHi cx kL_232 (As := [.ref (ad 0 0), .int (xs (i + 1)), .ref o1]) (frI (w := iW ad g κ X cs lf pr ++ oL o1 g f1) (wr := mW am g κ th ch cm rm row ++ oD o2 g f2) (W2 := fun (u : US) => wW g u.1 ((opStep κ (xs (i + 1))).2.2) u.2.1 u.2.2.1 u.2.2.2.1 u.2.2.2.2.1 o1 u.2.2.2.2.2 am κ th ch cm rm row o2 f2) (List.Perm.refl _) (fun _ => List.Perm.refl _) (tL_step l D g _ ad κ X cs lf pr o1 f1 (xs (i + 1)) htr hV hw hk hd)) ⟨rfl, rfl, by decide, by decide⟩ ⟨by omega, by omega⟩ rfl rfl (Nat.le_of_ble_eq_true rfl) dL_law_1907 ?_
  intro r u hu
  obtain ⟨hr, hc4, hval, hu0, hinv⟩ := hu
  refine J_istore cx (L' := (6, .int r) :: LL b (ad 0 0) (am 0) o1 o2 i) dL_law_1910 (by decide) rfl ?_
  refine J_aload_n cx dL_law_1912 rfl 4 rfl ?_
  refine J_sget cx hX hbl hbA hLn (i := i) (k := 1) (by omega) 6 1 rfl rfl (by decide) dL_law_1913 dL_law_1914 dL_law_1916 dL_law_1917 dL_law_1918 ?_
  refine J_callVi cx kL_234 (As := [.int (xs (i + 1))]) (frI (w := mW am g κ th ch cm rm row) (wr := (iW u.1 g ((opStep κ (xs (i + 1))).2.2) u.2.1 u.2.2.1 u.2.2.2.1 u.2.2.2.2.1 ++ oL o1 g u.2.2.2.2.2) ++ oD o2 g f2) (W2 := fun _ => wW g u.1 ((opStep κ (xs (i + 1))).2.2) u.2.1 u.2.2.1 u.2.2.2.1 u.2.2.2.2.1 o1 u.2.2.2.2.2 am ((opStep κ (xs (i + 1))).2.2) (nI (opStep κ (xs (i + 1))).1) ch cm rm row o2 f2) (pm_m _ _ _) (fun _ => (pm_m _ _ _).symm) (tX7_step l D g _ am κ th ch cm rm row (xs (i + 1)) hV.2.2.2.1)) ⟨rfl, rfl, by decide, by decide⟩ ⟨by omega, by omega⟩ rfl (iW u.1 g ((opStep κ (xs (i + 1))).2.2) u.2.1 u.2.2.1 u.2.2.2.1 u.2.2.2.2.1 ++ oL o1 g u.2.2.2.2.2).length (at_md rfl) rfl rfl (Nat.le_of_ble_eq_true rfl) dL_law_1919 ?_
  intro r9 _ hr9
  subst hr9
  refine J_istore cx (L' := (7, .int ((opStep κ (xs (i + 1))).2.1)) :: (6, .int r) :: LL b (ad 0 0) (am 0) o1 o2 i) dL_law_1922 (by decide) rfl ?_
  refine tl_I cx (cd := _) dL_law_1924 dL_law_1925 dL_law_1928 dL_law_1930 dL_law_1935 dL_law_1937 dL_law_1940 dL_law_1941 dL_law_1942 dL_law_1943 dL_law_1945 dL_law_1946 dL_law_1947 dL_law_1952 (by decide) hr.symm hr hc4 hval (by omega) (by omega) ?_
  have hx0 : u.1 0 0 = ad 0 0 := congrFun hu0 0
  exact J_widen (by omega) (by omega) (nx u.1 _ _ _ _ _ _ _ _ _ _ _ _ hx0 hinv (dy_step))
set_option maxHeartbeats 1000000 in
theorem lw_c27 (cx : CX p l s m args meth c RL cL_law ret 9 D g A) (htr : l.stackTraces = false) (hX : va_X b Ln xs s s.heap) (hbl : b < s.heap.size) (hbA : ¬ A b) (hLn : Ln ≤ 2560) (hi : i + 5 ≤ Ln) (hV : IV κ X) (hw : WV κ cs) (hk : κ.2.2.1 1 ≤ κ.2.2.1 0) (hd : κ.2.2.1 2 + 999 < 2147483648) (hc : cells + 20 ≤ room_1.cells) (hs : slots + 120 ≤ room_1.slots) (nx : NX p l e s m args below meth c D g A Q (cells + 20) (slots + 120) (κ.2.2.1 2 + 999) (ad 0 0) am b o1 o2 i) : J p l e room_1 s m args below meth c D A 9 Q cells slots (wW g ad κ X cs lf pr o1 f1 am κ th ch cm rm row o2 f2) (LL b (ad 0 0) (am 0) o1 o2 i) 1955 [] := by
  refine J_aload_n cx dL_law_1955 rfl 4 rfl ?_
  refine J_aload_n cx dL_law_1956 rfl 2 rfl ?_
  refine J_callHi cx kL_235 (As := [.ref (ad 0 0), .ref o1]) (frI (w := iW ad g κ X cs lf pr ++ oL o1 g f1) (wr := mW am g κ th ch cm rm row ++ oD o2 g f2) (W2 := fun (u : US) => wW g u.1 κ u.2.1 u.2.2.1 u.2.2.2.1 u.2.2.2.2.1 o1 u.2.2.2.2.2 am κ th ch cm rm row o2 f2) (List.Perm.refl _) (fun _ => List.Perm.refl _) (tL_reached l D g _ ad κ X cs lf pr o1 f1  htr hV hw hk hd)) ⟨rfl, rfl, by decide, by decide⟩ ⟨by omega, by omega⟩ rfl rfl (Nat.le_of_ble_eq_true rfl) dL_law_1957 ?_
  intro r u hu
  obtain ⟨hr, hc4, hval, hu0, hinv⟩ := hu
  refine J_istore cx (L' := (6, .int r) :: LL b (ad 0 0) (am 0) o1 o2 i) dL_law_1960 (by decide) rfl ?_
  refine J_aload_n cx dL_law_1962 rfl 4 rfl ?_
  refine J_callVi cx kL_238 (As := []) (frI (w := mW am g κ th ch cm rm row) (wr := (iW u.1 g κ u.2.1 u.2.2.1 u.2.2.2.1 u.2.2.2.2.1 ++ oL o1 g u.2.2.2.2.2) ++ oD o2 g f2) (W2 := fun _ => wW g u.1 κ u.2.1 u.2.2.1 u.2.2.2.1 u.2.2.2.2.1 o1 u.2.2.2.2.2 am κ (nI (opReached κ).1) ch cm rm row o2 f2) (pm_m _ _ _) (fun _ => (pm_m _ _ _).symm) (tX7_reached l D g _ am κ th ch cm rm row  hV.2.2.2.1)) ⟨rfl, rfl, by decide, by decide⟩ ⟨by omega, by omega⟩ rfl (iW u.1 g κ u.2.1 u.2.2.1 u.2.2.2.1 u.2.2.2.2.1 ++ oL o1 g u.2.2.2.2.2).length (at_md rfl) rfl rfl (Nat.le_of_ble_eq_true rfl) dL_law_1963 ?_
  intro r9 _ hr9
  subst hr9
  refine J_istore cx (L' := (7, .int ((opReached κ).2)) :: (6, .int r) :: LL b (ad 0 0) (am 0) o1 o2 i) dL_law_1966 (by decide) rfl ?_
  refine tl_I cx (cd := _) dL_law_1968 dL_law_1969 dL_law_1972 dL_law_1974 dL_law_1979 dL_law_1981 dL_law_1984 dL_law_1985 dL_law_1986 dL_law_1987 dL_law_1989 dL_law_1990 dL_law_1991 dL_law_1996 (by decide) hr.symm hr hc4 hval (by omega) (by omega) ?_
  have hx0 : u.1 0 0 = ad 0 0 := congrFun hu0 0
  exact J_widen (by omega) (by omega) (nx u.1 _ _ _ _ _ _ _ _ _ _ _ _ hx0 hinv (Nat.le_add_right _ _))
set_option maxHeartbeats 1000000 in
theorem lw_c28 (cx : CX p l s m args meth c RL cL_law ret 9 D g A) (htr : l.stackTraces = false) (hX : va_X b Ln xs s s.heap) (hbl : b < s.heap.size) (hbA : ¬ A b) (hLn : Ln ≤ 2560) (hi : i + 5 ≤ Ln) (hV : IV κ X) (hw : WV κ cs) (hk : κ.2.2.1 1 ≤ κ.2.2.1 0) (hd : κ.2.2.1 2 + 999 < 2147483648) (hc : cells + 20 ≤ room_1.cells) (hs : slots + 120 ≤ room_1.slots) (nx : NX p l e s m args below meth c D g A Q (cells + 20) (slots + 120) (κ.2.2.1 2 + 999) (ad 0 0) am b o1 o2 i) : J p l e room_1 s m args below meth c D A 9 Q cells slots (wW g ad κ X cs lf pr o1 f1 am κ th ch cm rm row o2 f2) (LL b (ad 0 0) (am 0) o1 o2 i) 1999 [] := by
  refine J_aload_n cx dL_law_1999 rfl 4 rfl ?_
  refine J_ws (ws' := wW g ad κ X (upc cs 0 (cs 0)) lf pr o1 f1 am κ th ch cm rm row o2 f2) (by rw [upc_self]) ?_
  refine J_callVi cx kL_239 (As := []) (frI (w := iW ad g κ X (upc cs 0 (cs 0)) lf pr) (wr := oL o1 g f1 ++ (mW am g κ th ch cm rm row ++ oD o2 g f2)) (W2 := fun _ => wW g ad κ X (upc cs 0 (cs 0)) lf pr o1 f1 am κ th ch cm rm row o2 f2) (pm_x _ _ _) (fun _ => (pm_x _ _ _).symm) (tX6_walked l D g _ ad κ X cs lf pr (cs 0) hw.1)) ⟨rfl, rfl, by decide, by decide⟩ ⟨by omega, by omega⟩ rfl 0 rfl rfl rfl (Nat.le_of_ble_eq_true rfl) dL_law_2000 ?_
  intro r9 _ hr9
  subst hr9
  refine J_aload_n cx dL_law_2003 rfl 3 rfl ?_
  refine J_callVi cx kL_242 (As := []) (frI (w := mW am g κ th ch cm rm row) (wr := (iW ad g κ X (upc cs 0 (cs 0)) lf pr ++ oL o1 g f1) ++ oD o2 g f2) (W2 := fun _ => wW g ad κ X (upc cs 0 (cs 0)) lf pr o1 f1 am κ (nI 0) ch cm rm row o2 f2) (pm_m _ _ _) (fun _ => (pm_m _ _ _).symm) (tX7_walked l D g _ am κ th ch cm rm row )) ⟨rfl, rfl, by decide, by decide⟩ ⟨by omega, by omega⟩ rfl (iW ad g κ X (upc cs 0 (cs 0)) lf pr ++ oL o1 g f1).length (at_md rfl) rfl rfl (Nat.le_of_ble_eq_true rfl) dL_law_2004 ?_
  intro r8 _ hr8
  subst hr8
  refine J_icmp_eq cx (tgt := 2627) dL_law_2007 (by decide) (fun _ => ?_) (fun h => absurd rfl h)
  exact J_widen (by omega) (by omega) (nx ad _ _ _ _ _ _ _ _ _ _ _ _ rfl ⟨hV, by rw [upc_self]; exact hw, hk⟩ (Nat.le_add_right _ _))
set_option maxHeartbeats 1000000 in
theorem lw_c29 (cx : CX p l s m args meth c RL cL_law ret 9 D g A) (htr : l.stackTraces = false) (hX : va_X b Ln xs s s.heap) (hbl : b < s.heap.size) (hbA : ¬ A b) (hLn : Ln ≤ 2560) (hi : i + 5 ≤ Ln) (hV : IV κ X) (hw : WV κ cs) (hk : κ.2.2.1 1 ≤ κ.2.2.1 0) (hd : κ.2.2.1 2 + 999 < 2147483648) (hc : cells + 20 ≤ room_1.cells) (hs : slots + 120 ≤ room_1.slots) (nx : NX p l e s m args below meth c D g A Q (cells + 20) (slots + 120) (κ.2.2.1 2 + 999) (ad 0 0) am b o1 o2 i) : J p l e room_1 s m args below meth c D A 9 Q cells slots (wW g ad κ X cs lf pr o1 f1 am κ th ch cm rm row o2 f2) (LL b (ad 0 0) (am 0) o1 o2 i) 2012 [] := by
  refine J_aload_n cx dL_law_2012 rfl 4 rfl ?_
  refine J_ws (ws' := wW g ad κ X (upc cs 0 (cs 0)) lf pr o1 f1 am κ th ch cm rm row o2 f2) (by rw [upc_self]) ?_
  refine J_callVi cx kL_243 (As := []) (frI (w := iW ad g κ X (upc cs 0 (cs 0)) lf pr) (wr := oL o1 g f1 ++ (mW am g κ th ch cm rm row ++ oD o2 g f2)) (W2 := fun _ => wW g ad κ X (upc cs 0 (cs 0)) lf pr o1 f1 am κ th ch cm rm row o2 f2) (pm_x _ _ _) (fun _ => (pm_x _ _ _).symm) (tX6_isThrough l D g _ ad κ X cs lf pr (cs 0) hV.1 hV.2.1 hw.1)) ⟨rfl, rfl, by decide, by decide⟩ ⟨by omega, by omega⟩ rfl 0 rfl rfl rfl (Nat.le_of_ble_eq_true rfl) dL_law_2013 ?_
  intro r9 _ hr9
  subst hr9
  refine J_aload_n cx dL_law_2016 rfl 3 rfl ?_
  refine J_callVi cx kL_247 (As := []) (frI (w := mW am g κ th ch cm rm row) (wr := (iW ad g κ X (upc cs 0 (cs 0)) lf pr ++ oL o1 g f1) ++ oD o2 g f2) (W2 := fun _ => wW g ad κ X (upc cs 0 (cs 0)) lf pr o1 f1 am κ (nI 0) ch cm rm row o2 f2) (pm_m _ _ _) (fun _ => (pm_m _ _ _).symm) (tX7_isThrough l D g _ am κ th ch cm rm row hV.2.2.2.1)) ⟨rfl, rfl, by decide, by decide⟩ ⟨by omega, by omega⟩ rfl (iW ad g κ X (upc cs 0 (cs 0)) lf pr ++ oL o1 g f1).length (at_md rfl) rfl rfl (Nat.le_of_ble_eq_true rfl) dL_law_2017 ?_
  intro r8 _ hr8
  subst hr8
  refine J_icmp_eq cx (tgt := 2627) dL_law_2020 (by decide) (fun _ => ?_) (fun h => absurd rfl h)
  exact J_widen (by omega) (by omega) (nx ad _ _ _ _ _ _ _ _ _ _ _ _ rfl ⟨hV, by rw [upc_self]; exact hw, hk⟩ (Nat.le_add_right _ _))
set_option maxHeartbeats 1000000 in
theorem lw_c30 (cx : CX p l s m args meth c RL cL_law ret 9 D g A) (htr : l.stackTraces = false) (hX : va_X b Ln xs s s.heap) (hbl : b < s.heap.size) (hbA : ¬ A b) (hLn : Ln ≤ 2560) (hi : i + 5 ≤ Ln) (hV : IV κ X) (hw : WV κ cs) (hk : κ.2.2.1 1 ≤ κ.2.2.1 0) (hd : κ.2.2.1 2 + 999 < 2147483648) (hc : cells + 20 ≤ room_1.cells) (hs : slots + 120 ≤ room_1.slots) (nx : NX p l e s m args below meth c D g A Q (cells + 20) (slots + 120) (κ.2.2.1 2 + 999) (ad 0 0) am b o1 o2 i) : J p l e room_1 s m args below meth c D A 9 Q cells slots (wW g ad κ X cs lf pr o1 f1 am κ th ch cm rm row o2 f2) (LL b (ad 0 0) (am 0) o1 o2 i) 2025 [] := by
  refine J_aload_n cx dL_law_2025 rfl 4 rfl ?_
  refine J_sget cx hX hbl hbA hLn (i := i) (k := 1) (by omega) 5 0 rfl rfl (by decide) dL_law_2026 dL_law_2027 dL_law_2029 dL_law_2030 dL_law_2031 ?_
  refine J_aload_n cx dL_law_2032 rfl 2 rfl ?_
  refine J_callHi cx kL_248 (As := [.ref (ad 0 0), .int (xs (i + 1)), .ref o1]) (frI (w := iW ad g κ X cs lf pr ++ oL o1 g f1) (wr := mW am g κ th ch cm rm row ++ oD o2 g f2) (W2 := fun (u : US) => wW g u.1 κ u.2.1 u.2.2.1 u.2.2.2.1 u.2.2.2.2.1 o1 u.2.2.2.2.2 am κ th ch cm rm row o2 f2) (List.Perm.refl _) (fun _ => List.Perm.refl _) (tL_rootOf l D g _ ad κ X cs lf pr o1 f1 (xs (i + 1)) htr hV hw hk hd)) ⟨rfl, rfl, by decide, by decide⟩ ⟨by omega, by omega⟩ rfl rfl (Nat.le_of_ble_eq_true rfl) dL_law_2033 ?_
  intro r u hu
  obtain ⟨hr, hc4, hval, hu0, hinv⟩ := hu
  refine J_istore cx (L' := (6, .int r) :: LL b (ad 0 0) (am 0) o1 o2 i) dL_law_2036 (by decide) rfl ?_
  refine J_aload_n cx dL_law_2038 rfl 4 rfl ?_
  refine J_sget cx hX hbl hbA hLn (i := i) (k := 1) (by omega) 6 1 rfl rfl (by decide) dL_law_2039 dL_law_2040 dL_law_2042 dL_law_2043 dL_law_2044 ?_
  refine J_callVl cx kL_250 (As := [.int (xs (i + 1))]) (frL (w := mW am g κ th ch cm rm row) (wr := (iW u.1 g κ u.2.1 u.2.2.1 u.2.2.2.1 u.2.2.2.2.1 ++ oL o1 g u.2.2.2.2.2) ++ oD o2 g f2) (W2 := fun _ => wW g u.1 κ u.2.1 u.2.2.1 u.2.2.2.1 u.2.2.2.2.1 o1 u.2.2.2.2.2 am κ (nI (opRoot κ (xs (i + 1))).1) ch cm rm row o2 f2) (pm_m _ _ _) (fun _ => (pm_m _ _ _).symm) (tX7_rootOf l D g _ am κ th ch cm rm row (xs (i + 1)) hV.1.1)) ⟨rfl, rfl, by decide, by decide⟩ ⟨by omega, by omega⟩ rfl (iW u.1 g κ u.2.1 u.2.2.1 u.2.2.2.1 u.2.2.2.2.1 ++ oL o1 g u.2.2.2.2.2).length (at_md rfl) rfl rfl (Nat.le_of_ble_eq_true rfl) dL_law_2045 ?_
  intro r9 _ hr9
  subst hr9
  refine J_lstore cx (L' := (7, .long ((opRoot κ (xs (i + 1))).2)) :: (6, .int r) :: LL b (ad 0 0) (am 0) o1 o2 i) dL_law_2048 (by decide) rfl ?_
  refine tl_L cx (cd := _) dL_law_2050 dL_law_2051 dL_law_2054 dL_law_2056 dL_law_2061 dL_law_2063 dL_law_2066 dL_law_2067 dL_law_2068 dL_law_2069 dL_law_2071 dL_law_2072 dL_law_2077 (by decide) hr.symm hr hc4 hval (by omega) (by omega) ?_
  have hx0 : u.1 0 0 = ad 0 0 := congrFun hu0 0
  exact J_widen (by omega) (by omega) (nx u.1 _ _ _ _ _ _ _ _ _ _ _ _ hx0 hinv (Nat.le_add_right _ _))
set_option maxHeartbeats 1000000 in
theorem lw_c31 (cx : CX p l s m args meth c RL cL_law ret 9 D g A) (htr : l.stackTraces = false) (hX : va_X b Ln xs s s.heap) (hbl : b < s.heap.size) (hbA : ¬ A b) (hLn : Ln ≤ 2560) (hi : i + 5 ≤ Ln) (hV : IV κ X) (hw : WV κ cs) (hk : κ.2.2.1 1 ≤ κ.2.2.1 0) (hd : κ.2.2.1 2 + 999 < 2147483648) (hc : cells + 20 ≤ room_1.cells) (hs : slots + 120 ≤ room_1.slots) (nx : NX p l e s m args below meth c D g A Q (cells + 20) (slots + 120) (κ.2.2.1 2 + 999) (ad 0 0) am b o1 o2 i) : J p l e room_1 s m args below meth c D A 9 Q cells slots (wW g ad κ X cs lf pr o1 f1 am κ th ch cm rm row o2 f2) (LL b (ad 0 0) (am 0) o1 o2 i) 2080 [] := by
  refine J_aload_n cx dL_law_2080 rfl 4 rfl ?_
  refine J_sget cx hX hbl hbA hLn (i := i) (k := 1) (by omega) 5 0 rfl rfl (by decide) dL_law_2081 dL_law_2082 dL_law_2084 dL_law_2085 dL_law_2086 ?_
  refine J_aload_n cx dL_law_2087 rfl 2 rfl ?_
  refine J_callHi cx kL_251 (As := [.ref (ad 0 0), .int (xs (i + 1)), .ref o1]) (frI (w := iW ad g κ X cs lf pr ++ oL o1 g f1) (wr := mW am g κ th ch cm rm row ++ oD o2 g f2) (W2 := fun (u : US) => wW g u.1 κ u.2.1 u.2.2.1 u.2.2.2.1 u.2.2.2.2.1 o1 u.2.2.2.2.2 am κ th ch cm rm row o2 f2) (List.Perm.refl _) (fun _ => List.Perm.refl _) (tL_rootByJoining l D g _ ad κ X cs lf pr o1 f1 (xs (i + 1)) htr hV hw hk hd)) ⟨rfl, rfl, by decide, by decide⟩ ⟨by omega, by omega⟩ rfl rfl (Nat.le_of_ble_eq_true rfl) dL_law_2088 ?_
  intro r u hu
  obtain ⟨hr, hc4, hval, hu0, hinv⟩ := hu
  refine J_istore cx (L' := (6, .int r) :: LL b (ad 0 0) (am 0) o1 o2 i) dL_law_2091 (by decide) rfl ?_
  refine J_aload_n cx dL_law_2093 rfl 4 rfl ?_
  refine J_sget cx hX hbl hbA hLn (i := i) (k := 1) (by omega) 6 1 rfl rfl (by decide) dL_law_2094 dL_law_2095 dL_law_2097 dL_law_2098 dL_law_2099 ?_
  refine J_callVl cx kL_253 (As := [.int (xs (i + 1))]) (frL (w := mW am g κ th ch cm rm row) (wr := (iW u.1 g κ u.2.1 u.2.2.1 u.2.2.2.1 u.2.2.2.2.1 ++ oL o1 g u.2.2.2.2.2) ++ oD o2 g f2) (W2 := fun _ => wW g u.1 κ u.2.1 u.2.2.1 u.2.2.2.1 u.2.2.2.2.1 o1 u.2.2.2.2.2 am κ (nI (opRoot κ (xs (i + 1))).1) ch cm rm row o2 f2) (pm_m _ _ _) (fun _ => (pm_m _ _ _).symm) (tX7_rootByJoining l D g _ am κ th ch cm rm row (xs (i + 1)) hV.1.1)) ⟨rfl, rfl, by decide, by decide⟩ ⟨by omega, by omega⟩ rfl (iW u.1 g κ u.2.1 u.2.2.1 u.2.2.2.1 u.2.2.2.2.1 ++ oL o1 g u.2.2.2.2.2).length (at_md rfl) rfl rfl (Nat.le_of_ble_eq_true rfl) dL_law_2100 ?_
  intro r9 _ hr9
  subst hr9
  refine J_lstore cx (L' := (7, .long ((opRoot κ (xs (i + 1))).2)) :: (6, .int r) :: LL b (ad 0 0) (am 0) o1 o2 i) dL_law_2103 (by decide) rfl ?_
  refine tl_L cx (cd := _) dL_law_2105 dL_law_2106 dL_law_2109 dL_law_2111 dL_law_2116 dL_law_2118 dL_law_2121 dL_law_2122 dL_law_2123 dL_law_2124 dL_law_2126 dL_law_2127 dL_law_2132 (by decide) hr.symm hr hc4 hval (by omega) (by omega) ?_
  have hx0 : u.1 0 0 = ad 0 0 := congrFun hu0 0
  exact J_widen (by omega) (by omega) (nx u.1 _ _ _ _ _ _ _ _ _ _ _ _ hx0 hinv (Nat.le_add_right _ _))
set_option maxHeartbeats 1000000 in
theorem lw_c32 (cx : CX p l s m args meth c RL cL_law ret 9 D g A) (htr : l.stackTraces = false) (hX : va_X b Ln xs s s.heap) (hbl : b < s.heap.size) (hbA : ¬ A b) (hLn : Ln ≤ 2560) (hi : i + 5 ≤ Ln) (hV : IV κ X) (hw : WV κ cs) (hk : κ.2.2.1 1 ≤ κ.2.2.1 0) (hd : κ.2.2.1 2 + 999 < 2147483648) (hc : cells + 20 ≤ room_1.cells) (hs : slots + 120 ≤ room_1.slots) (nx : NX p l e s m args below meth c D g A Q (cells + 20) (slots + 120) (κ.2.2.1 2 + 999) (ad 0 0) am b o1 o2 i) : J p l e room_1 s m args below meth c D A 9 Q cells slots (wW g ad κ X cs lf pr o1 f1 am κ th ch cm rm row o2 f2) (LL b (ad 0 0) (am 0) o1 o2 i) 2135 [] := by
  refine J_aload_n cx dL_law_2135 rfl 4 rfl ?_
  refine J_sget cx hX hbl hbA hLn (i := i) (k := 1) (by omega) 5 0 rfl rfl (by decide) dL_law_2136 dL_law_2137 dL_law_2139 dL_law_2140 dL_law_2141 ?_
  refine J_sget cx hX hbl hbA hLn (i := i) (k := 2) (by omega) 5 0 rfl rfl (by decide) dL_law_2142 dL_law_2143 dL_law_2145 dL_law_2146 dL_law_2147 ?_
  refine J_aload_n cx dL_law_2148 rfl 2 rfl ?_
  refine J_callHi cx kL_254 (As := [.ref (ad 0 0), .int (xs (i + 1)), .int (xs (i + 2)), .ref o1]) (frI (w := iW ad g κ X cs lf pr ++ oL o1 g f1) (wr := mW am g κ th ch cm rm row ++ oD o2 g f2) (W2 := fun (u : US) => wW g u.1 κ u.2.1 u.2.2.1 u.2.2.2.1 u.2.2.2.2.1 o1 u.2.2.2.2.2 am κ th ch cm rm row o2 f2) (List.Perm.refl _) (fun _ => List.Perm.refl _) (tL_proofSize l D g _ ad κ X cs lf pr o1 f1 (xs (i + 1)) (xs (i + 2)) htr hV hw hk hd)) ⟨rfl, rfl, by decide, by decide⟩ ⟨by omega, by omega⟩ rfl rfl (Nat.le_of_ble_eq_true rfl) dL_law_2149 ?_
  intro r u hu
  have hu := AP_cv (c1 := (opPrS κ (xs (i + 1)) (xs (i + 2)) rm row).1) (v1 := (opPrS κ (xs (i + 1)) (xs (i + 2)) rm row).2.toInt64) hu rfl (fun q => congrArg Int32.toInt64 (prS_v q hV.1.1))
  obtain ⟨hr, hc4, hval, hu0, hinv⟩ := hu
  refine J_istore cx (L' := (6, .int r) :: LL b (ad 0 0) (am 0) o1 o2 i) dL_law_2152 (by decide) rfl ?_
  refine J_aload_n cx dL_law_2154 rfl 4 rfl ?_
  refine J_sget cx hX hbl hbA hLn (i := i) (k := 1) (by omega) 6 1 rfl rfl (by decide) dL_law_2155 dL_law_2156 dL_law_2158 dL_law_2159 dL_law_2160 ?_
  refine J_sget cx hX hbl hbA hLn (i := i) (k := 2) (by omega) 6 1 rfl rfl (by decide) dL_law_2161 dL_law_2162 dL_law_2164 dL_law_2165 dL_law_2166 ?_
  refine J_callVi cx kL_256 (As := [.int (xs (i + 1)), .int (xs (i + 2))]) (frI (w := mW am g κ th ch cm rm row) (wr := (iW u.1 g κ u.2.1 u.2.2.1 u.2.2.2.1 u.2.2.2.2.1 ++ oL o1 g u.2.2.2.2.2) ++ oD o2 g f2) (W2 := fun _ => wW g u.1 κ u.2.1 u.2.2.1 u.2.2.2.1 u.2.2.2.2.1 o1 u.2.2.2.2.2 am κ (nI (opPrS κ (xs (i + 1)) (xs (i + 2)) rm row).1) ch cm ((prQ κ (xs (i + 1)) (xs (i + 2)) rm row).1) ((prQ κ (xs (i + 1)) (xs (i + 2)) rm row).2) o2 f2) (pm_m _ _ _) (fun _ => (pm_m _ _ _).symm) (tX7_proofSize l D g _ am κ th ch cm rm row (xs (i + 1)) (xs (i + 2)) hV.1.1)) ⟨rfl, rfl, by decide, by decide⟩ ⟨by omega, by omega⟩ rfl (iW u.1 g κ u.2.1 u.2.2.1 u.2.2.2.1 u.2.2.2.2.1 ++ oL o1 g u.2.2.2.2.2).length (at_md rfl) rfl rfl (Nat.le_of_ble_eq_true rfl) dL_law_2167 ?_
  intro r9 _ hr9
  subst hr9
  refine J_istore cx (L' := (7, .int ((opPrS κ (xs (i + 1)) (xs (i + 2)) rm row).2)) :: (6, .int r) :: LL b (ad 0 0) (am 0) o1 o2 i) dL_law_2170 (by decide) rfl ?_
  refine tl_I cx (cd := _) dL_law_2172 dL_law_2173 dL_law_2176 dL_law_2178 dL_law_2183 dL_law_2185 dL_law_2188 dL_law_2189 dL_law_2190 dL_law_2191 dL_law_2193 dL_law_2194 dL_law_2195 dL_law_2200 (by decide) hr.symm hr hc4 hval (by omega) (by omega) ?_
  have hx0 : u.1 0 0 = ad 0 0 := congrFun hu0 0
  exact J_widen (by omega) (by omega) (nx u.1 _ _ _ _ _ _ _ _ _ _ _ _ hx0 hinv (Nat.le_add_right _ _))
set_option maxHeartbeats 1000000 in
theorem lw_c33 (cx : CX p l s m args meth c RL cL_law ret 9 D g A) (htr : l.stackTraces = false) (hX : va_X b Ln xs s s.heap) (hbl : b < s.heap.size) (hbA : ¬ A b) (hLn : Ln ≤ 2560) (hi : i + 5 ≤ Ln) (hV : IV κ X) (hw : WV κ cs) (hk : κ.2.2.1 1 ≤ κ.2.2.1 0) (hd : κ.2.2.1 2 + 999 < 2147483648) (hc : cells + 20 ≤ room_1.cells) (hs : slots + 120 ≤ room_1.slots) (nx : NX p l e s m args below meth c D g A Q (cells + 20) (slots + 120) (κ.2.2.1 2 + 999) (ad 0 0) am b o1 o2 i) : J p l e room_1 s m args below meth c D A 9 Q cells slots (wW g ad κ X cs lf pr o1 f1 am κ th ch cm rm row o2 f2) (LL b (ad 0 0) (am 0) o1 o2 i) 2203 [] := by
  refine J_aload_n cx dL_law_2203 rfl 4 rfl ?_
  refine J_sget cx hX hbl hbA hLn (i := i) (k := 1) (by omega) 5 0 rfl rfl (by decide) dL_law_2204 dL_law_2205 dL_law_2207 dL_law_2208 dL_law_2209 ?_
  refine J_sget cx hX hbl hbA hLn (i := i) (k := 2) (by omega) 5 0 rfl rfl (by decide) dL_law_2210 dL_law_2211 dL_law_2213 dL_law_2214 dL_law_2215 ?_
  refine J_sget cx hX hbl hbA hLn (i := i) (k := 3) (by omega) 5 0 rfl rfl (by decide) dL_law_2216 dL_law_2217 dL_law_2219 dL_law_2220 dL_law_2221 ?_
  refine J_aload_n cx dL_law_2222 rfl 2 rfl ?_
  refine J_callHi cx kL_257 (As := [.ref (ad 0 0), .int (xs (i + 1)), .int (xs (i + 2)), .int (xs (i + 3)), .ref o1]) (frI (w := iW ad g κ X cs lf pr ++ oL o1 g f1) (wr := mW am g κ th ch cm rm row ++ oD o2 g f2) (W2 := fun (u : US) => wW g u.1 κ u.2.1 u.2.2.1 u.2.2.2.1 u.2.2.2.2.1 o1 u.2.2.2.2.2 am κ th ch cm rm row o2 f2) (List.Perm.refl _) (fun _ => List.Perm.refl _) (tL_proofAt l D g _ ad κ X cs lf pr o1 f1 (xs (i + 1)) (xs (i + 2)) (xs (i + 3)) htr hV hw hk hd)) ⟨rfl, rfl, by decide, by decide⟩ ⟨by omega, by omega⟩ rfl rfl (Nat.le_of_ble_eq_true rfl) dL_law_2223 ?_
  intro r u hu
  have hu := AP_cv (c1 := (opPrA κ (xs (i + 1)) (xs (i + 2)) (xs (i + 3)) rm row).1) (v1 := (opPrA κ (xs (i + 1)) (xs (i + 2)) (xs (i + 3)) rm row).2) hu (oc_PA pr rm row hV.1.1).1 (oc_PA pr rm row hV.1.1).2
  obtain ⟨hr, hc4, hval, hu0, hinv⟩ := hu
  refine J_istore cx (L' := (6, .int r) :: LL b (ad 0 0) (am 0) o1 o2 i) dL_law_2226 (by decide) rfl ?_
  refine J_aload_n cx dL_law_2228 rfl 4 rfl ?_
  refine J_sget cx hX hbl hbA hLn (i := i) (k := 1) (by omega) 6 1 rfl rfl (by decide) dL_law_2229 dL_law_2230 dL_law_2232 dL_law_2233 dL_law_2234 ?_
  refine J_sget cx hX hbl hbA hLn (i := i) (k := 2) (by omega) 6 1 rfl rfl (by decide) dL_law_2235 dL_law_2236 dL_law_2238 dL_law_2239 dL_law_2240 ?_
  refine J_sget cx hX hbl hbA hLn (i := i) (k := 3) (by omega) 6 1 rfl rfl (by decide) dL_law_2241 dL_law_2242 dL_law_2244 dL_law_2245 dL_law_2246 ?_
  refine J_callVl cx kL_259 (As := [.int (xs (i + 1)), .int (xs (i + 2)), .int (xs (i + 3))]) (frL (w := mW am g κ th ch cm rm row) (wr := (iW u.1 g κ u.2.1 u.2.2.1 u.2.2.2.1 u.2.2.2.2.1 ++ oL o1 g u.2.2.2.2.2) ++ oD o2 g f2) (W2 := fun _ => wW g u.1 κ u.2.1 u.2.2.1 u.2.2.2.1 u.2.2.2.2.1 o1 u.2.2.2.2.2 am κ (nI (opPrA κ (xs (i + 1)) (xs (i + 2)) (xs (i + 3)) rm row).1) ch cm ((prQ κ (xs (i + 1)) (xs (i + 2)) rm row).1) ((prQ κ (xs (i + 1)) (xs (i + 2)) rm row).2) o2 f2) (pm_m _ _ _) (fun _ => (pm_m _ _ _).symm) (tX7_proofAt l D g _ am κ th ch cm rm row (xs (i + 1)) (xs (i + 2)) (xs (i + 3)) hV.1.1)) ⟨rfl, rfl, by decide, by decide⟩ ⟨by omega, by omega⟩ rfl (iW u.1 g κ u.2.1 u.2.2.1 u.2.2.2.1 u.2.2.2.2.1 ++ oL o1 g u.2.2.2.2.2).length (at_md rfl) rfl rfl (Nat.le_of_ble_eq_true rfl) dL_law_2247 ?_
  intro r9 _ hr9
  subst hr9
  refine J_lstore cx (L' := (7, .long ((opPrA κ (xs (i + 1)) (xs (i + 2)) (xs (i + 3)) rm row).2)) :: (6, .int r) :: LL b (ad 0 0) (am 0) o1 o2 i) dL_law_2250 (by decide) rfl ?_
  refine tl_L cx (cd := _) dL_law_2252 dL_law_2253 dL_law_2256 dL_law_2258 dL_law_2263 dL_law_2265 dL_law_2268 dL_law_2269 dL_law_2270 dL_law_2271 dL_law_2273 dL_law_2274 dL_law_2279 (by decide) hr.symm hr hc4 hval (by omega) (by omega) ?_
  have hx0 : u.1 0 0 = ad 0 0 := congrFun hu0 0
  exact J_widen (by omega) (by omega) (nx u.1 _ _ _ _ _ _ _ _ _ _ _ _ hx0 hinv (Nat.le_add_right _ _))
set_option maxHeartbeats 1000000 in
theorem lw_c34 (cx : CX p l s m args meth c RL cL_law ret 9 D g A) (htr : l.stackTraces = false) (hX : va_X b Ln xs s s.heap) (hbl : b < s.heap.size) (hbA : ¬ A b) (hLn : Ln ≤ 2560) (hi : i + 5 ≤ Ln) (hV : IV κ X) (hw : WV κ cs) (hk : κ.2.2.1 1 ≤ κ.2.2.1 0) (hd : κ.2.2.1 2 + 999 < 2147483648) (hc : cells + 20 ≤ room_1.cells) (hs : slots + 120 ≤ room_1.slots) (nx : NX p l e s m args below meth c D g A Q (cells + 20) (slots + 120) (κ.2.2.1 2 + 999) (ad 0 0) am b o1 o2 i) : J p l e room_1 s m args below meth c D A 9 Q cells slots (wW g ad κ X cs lf pr o1 f1 am κ th ch cm rm row o2 f2) (LL b (ad 0 0) (am 0) o1 o2 i) 2282 [] := by
  refine J_aload_n cx dL_law_2282 rfl 4 rfl ?_
  refine J_sget cx hX hbl hbA hLn (i := i) (k := 1) (by omega) 5 0 rfl rfl (by decide) dL_law_2283 dL_law_2284 dL_law_2286 dL_law_2287 dL_law_2288 ?_
  refine J_sget cx hX hbl hbA hLn (i := i) (k := 2) (by omega) 5 0 rfl rfl (by decide) dL_law_2289 dL_law_2290 dL_law_2292 dL_law_2293 dL_law_2294 ?_
  refine J_aload_n cx dL_law_2295 rfl 2 rfl ?_
  refine J_callHi cx kL_260 (As := [.ref (ad 0 0), .int (xs (i + 1)), .int (xs (i + 2)), .ref o1]) (frI (w := iW ad g κ X cs lf pr ++ oL o1 g f1) (wr := mW am g κ th ch cm rm row ++ oD o2 g f2) (W2 := fun (u : US) => wW g u.1 κ u.2.1 u.2.2.1 u.2.2.2.1 u.2.2.2.2.1 o1 u.2.2.2.2.2 am κ th ch cm rm row o2 f2) (List.Perm.refl _) (fun _ => List.Perm.refl _) (tL_rootByProof l D g _ ad κ X cs lf pr o1 f1 (xs (i + 1)) (xs (i + 2)) htr hV hw hk hd)) ⟨rfl, rfl, by decide, by decide⟩ ⟨by omega, by omega⟩ rfl rfl (Nat.le_of_ble_eq_true rfl) dL_law_2296 ?_
  intro r u hu
  have hu := AP_cv (c1 := (opPrR κ (xs (i + 1)) (xs (i + 2))).1) (v1 := (opPrR κ (xs (i + 1)) (xs (i + 2))).2) hu rfl (fun q => prR_v q hV.1.1)
  obtain ⟨hr, hc4, hval, hu0, hinv⟩ := hu
  refine J_istore cx (L' := (6, .int r) :: LL b (ad 0 0) (am 0) o1 o2 i) dL_law_2299 (by decide) rfl ?_
  refine J_aload_n cx dL_law_2301 rfl 4 rfl ?_
  refine J_sget cx hX hbl hbA hLn (i := i) (k := 1) (by omega) 6 1 rfl rfl (by decide) dL_law_2302 dL_law_2303 dL_law_2305 dL_law_2306 dL_law_2307 ?_
  refine J_sget cx hX hbl hbA hLn (i := i) (k := 2) (by omega) 6 1 rfl rfl (by decide) dL_law_2308 dL_law_2309 dL_law_2311 dL_law_2312 dL_law_2313 ?_
  refine J_callVl cx kL_262 (As := [.int (xs (i + 1)), .int (xs (i + 2))]) (frL (w := mW am g κ th ch cm rm row) (wr := (iW u.1 g κ u.2.1 u.2.2.1 u.2.2.2.1 u.2.2.2.2.1 ++ oL o1 g u.2.2.2.2.2) ++ oD o2 g f2) (W2 := fun _ => wW g u.1 κ u.2.1 u.2.2.1 u.2.2.2.1 u.2.2.2.2.1 o1 u.2.2.2.2.2 am κ (nI (opPrR κ (xs (i + 1)) (xs (i + 2))).1) ch cm ((prQ κ (xs (i + 1)) (xs (i + 2)) rm row).1) ((prQ κ (xs (i + 1)) (xs (i + 2)) rm row).2) o2 f2) (pm_m _ _ _) (fun _ => (pm_m _ _ _).symm) (tX7_rootByProof l D g _ am κ th ch cm rm row (xs (i + 1)) (xs (i + 2)) hV.1.1)) ⟨rfl, rfl, by decide, by decide⟩ ⟨by omega, by omega⟩ rfl (iW u.1 g κ u.2.1 u.2.2.1 u.2.2.2.1 u.2.2.2.2.1 ++ oL o1 g u.2.2.2.2.2).length (at_md rfl) rfl rfl (Nat.le_of_ble_eq_true rfl) dL_law_2314 ?_
  intro r9 _ hr9
  subst hr9
  refine J_lstore cx (L' := (7, .long ((opPrR κ (xs (i + 1)) (xs (i + 2))).2)) :: (6, .int r) :: LL b (ad 0 0) (am 0) o1 o2 i) dL_law_2317 (by decide) rfl ?_
  refine tl_L cx (cd := _) dL_law_2319 dL_law_2320 dL_law_2323 dL_law_2325 dL_law_2330 dL_law_2332 dL_law_2335 dL_law_2336 dL_law_2337 dL_law_2338 dL_law_2340 dL_law_2341 dL_law_2346 (by decide) hr.symm hr hc4 hval (by omega) (by omega) ?_
  have hx0 : u.1 0 0 = ad 0 0 := congrFun hu0 0
  exact J_widen (by omega) (by omega) (nx u.1 _ _ _ _ _ _ _ _ _ _ _ _ hx0 hinv (Nat.le_add_right _ _))
set_option maxHeartbeats 1000000 in
theorem lw_c35 (cx : CX p l s m args meth c RL cL_law ret 9 D g A) (htr : l.stackTraces = false) (hX : va_X b Ln xs s s.heap) (hbl : b < s.heap.size) (hbA : ¬ A b) (hLn : Ln ≤ 2560) (hi : i + 5 ≤ Ln) (hV : IV κ X) (hw : WV κ cs) (hk : κ.2.2.1 1 ≤ κ.2.2.1 0) (hd : κ.2.2.1 2 + 999 < 2147483648) (hc : cells + 20 ≤ room_1.cells) (hs : slots + 120 ≤ room_1.slots) (nx : NX p l e s m args below meth c D g A Q (cells + 20) (slots + 120) (κ.2.2.1 2 + 999) (ad 0 0) am b o1 o2 i) : J p l e room_1 s m args below meth c D A 9 Q cells slots (wW g ad κ X cs lf pr o1 f1 am κ th ch cm rm row o2 f2) (LL b (ad 0 0) (am 0) o1 o2 i) 2349 [] := by
  refine J_aload_n cx dL_law_2349 rfl 4 rfl ?_
  refine J_sget cx hX hbl hbA hLn (i := i) (k := 1) (by omega) 5 0 rfl rfl (by decide) dL_law_2350 dL_law_2351 dL_law_2353 dL_law_2354 dL_law_2355 ?_
  refine J_sget cx hX hbl hbA hLn (i := i) (k := 2) (by omega) 5 0 rfl rfl (by decide) dL_law_2356 dL_law_2357 dL_law_2359 dL_law_2360 dL_law_2361 ?_
  refine J_aload_n cx dL_law_2362 rfl 2 rfl ?_
  refine J_callHi cx kL_263 (As := [.ref (ad 0 0), .int (xs (i + 1)), .int (xs (i + 2)), .ref o1]) (frI (w := iW ad g κ X cs lf pr ++ oL o1 g f1) (wr := mW am g κ th ch cm rm row ++ oD o2 g f2) (W2 := fun (u : US) => wW g u.1 κ u.2.1 u.2.2.1 u.2.2.2.1 u.2.2.2.2.1 o1 u.2.2.2.2.2 am κ th ch cm rm row o2 f2) (List.Perm.refl _) (fun _ => List.Perm.refl _) (tL_growthSize l D g _ ad κ X cs lf pr o1 f1 (xs (i + 1)) (xs (i + 2)) htr hV hw hk hd)) ⟨rfl, rfl, by decide, by decide⟩ ⟨by omega, by omega⟩ rfl rfl (Nat.le_of_ble_eq_true rfl) dL_law_2363 ?_
  intro r u hu
  have hu := AP_cv (c1 := (opGrS κ (xs (i + 1)) (xs (i + 2)) rm row).1) (v1 := (opGrS κ (xs (i + 1)) (xs (i + 2)) rm row).2.toInt64) hu rfl (fun q => congrArg Int32.toInt64 (grS_v q hV.1.1))
  obtain ⟨hr, hc4, hval, hu0, hinv⟩ := hu
  refine J_istore cx (L' := (6, .int r) :: LL b (ad 0 0) (am 0) o1 o2 i) dL_law_2366 (by decide) rfl ?_
  refine J_aload_n cx dL_law_2368 rfl 4 rfl ?_
  refine J_sget cx hX hbl hbA hLn (i := i) (k := 1) (by omega) 6 1 rfl rfl (by decide) dL_law_2369 dL_law_2370 dL_law_2372 dL_law_2373 dL_law_2374 ?_
  refine J_sget cx hX hbl hbA hLn (i := i) (k := 2) (by omega) 6 1 rfl rfl (by decide) dL_law_2375 dL_law_2376 dL_law_2378 dL_law_2379 dL_law_2380 ?_
  refine J_callVi cx kL_265 (As := [.int (xs (i + 1)), .int (xs (i + 2))]) (frI (w := mW am g κ th ch cm rm row) (wr := (iW u.1 g κ u.2.1 u.2.2.1 u.2.2.2.1 u.2.2.2.2.1 ++ oL o1 g u.2.2.2.2.2) ++ oD o2 g f2) (W2 := fun _ => wW g u.1 κ u.2.1 u.2.2.1 u.2.2.2.1 u.2.2.2.2.1 o1 u.2.2.2.2.2 am κ (nI (opGrS κ (xs (i + 1)) (xs (i + 2)) rm row).1) ch cm ((grQ κ (xs (i + 1)) (xs (i + 2)) rm row).1) ((grQ κ (xs (i + 1)) (xs (i + 2)) rm row).2) o2 f2) (pm_m _ _ _) (fun _ => (pm_m _ _ _).symm) (tX7_growthSize l D g _ am κ th ch cm rm row (xs (i + 1)) (xs (i + 2)) hV.1.1)) ⟨rfl, rfl, by decide, by decide⟩ ⟨by omega, by omega⟩ rfl (iW u.1 g κ u.2.1 u.2.2.1 u.2.2.2.1 u.2.2.2.2.1 ++ oL o1 g u.2.2.2.2.2).length (at_md rfl) rfl rfl (Nat.le_of_ble_eq_true rfl) dL_law_2381 ?_
  intro r9 _ hr9
  subst hr9
  refine J_istore cx (L' := (7, .int ((opGrS κ (xs (i + 1)) (xs (i + 2)) rm row).2)) :: (6, .int r) :: LL b (ad 0 0) (am 0) o1 o2 i) dL_law_2384 (by decide) rfl ?_
  refine tl_I cx (cd := _) dL_law_2386 dL_law_2387 dL_law_2390 dL_law_2392 dL_law_2397 dL_law_2399 dL_law_2402 dL_law_2403 dL_law_2404 dL_law_2405 dL_law_2407 dL_law_2408 dL_law_2409 dL_law_2414 (by decide) hr.symm hr hc4 hval (by omega) (by omega) ?_
  have hx0 : u.1 0 0 = ad 0 0 := congrFun hu0 0
  exact J_widen (by omega) (by omega) (nx u.1 _ _ _ _ _ _ _ _ _ _ _ _ hx0 hinv (Nat.le_add_right _ _))
set_option maxHeartbeats 1000000 in
theorem lw_c36 (cx : CX p l s m args meth c RL cL_law ret 9 D g A) (htr : l.stackTraces = false) (hX : va_X b Ln xs s s.heap) (hbl : b < s.heap.size) (hbA : ¬ A b) (hLn : Ln ≤ 2560) (hi : i + 5 ≤ Ln) (hV : IV κ X) (hw : WV κ cs) (hk : κ.2.2.1 1 ≤ κ.2.2.1 0) (hd : κ.2.2.1 2 + 999 < 2147483648) (hc : cells + 20 ≤ room_1.cells) (hs : slots + 120 ≤ room_1.slots) (nx : NX p l e s m args below meth c D g A Q (cells + 20) (slots + 120) (κ.2.2.1 2 + 999) (ad 0 0) am b o1 o2 i) : J p l e room_1 s m args below meth c D A 9 Q cells slots (wW g ad κ X cs lf pr o1 f1 am κ th ch cm rm row o2 f2) (LL b (ad 0 0) (am 0) o1 o2 i) 2417 [] := by
  refine J_aload_n cx dL_law_2417 rfl 4 rfl ?_
  refine J_sget cx hX hbl hbA hLn (i := i) (k := 1) (by omega) 5 0 rfl rfl (by decide) dL_law_2418 dL_law_2419 dL_law_2421 dL_law_2422 dL_law_2423 ?_
  refine J_sget cx hX hbl hbA hLn (i := i) (k := 2) (by omega) 5 0 rfl rfl (by decide) dL_law_2424 dL_law_2425 dL_law_2427 dL_law_2428 dL_law_2429 ?_
  refine J_sget cx hX hbl hbA hLn (i := i) (k := 3) (by omega) 5 0 rfl rfl (by decide) dL_law_2430 dL_law_2431 dL_law_2433 dL_law_2434 dL_law_2435 ?_
  refine J_aload_n cx dL_law_2436 rfl 2 rfl ?_
  refine J_callHi cx kL_266 (As := [.ref (ad 0 0), .int (xs (i + 1)), .int (xs (i + 2)), .int (xs (i + 3)), .ref o1]) (frI (w := iW ad g κ X cs lf pr ++ oL o1 g f1) (wr := mW am g κ th ch cm rm row ++ oD o2 g f2) (W2 := fun (u : US) => wW g u.1 κ u.2.1 u.2.2.1 u.2.2.2.1 u.2.2.2.2.1 o1 u.2.2.2.2.2 am κ th ch cm rm row o2 f2) (List.Perm.refl _) (fun _ => List.Perm.refl _) (tL_growthAt l D g _ ad κ X cs lf pr o1 f1 (xs (i + 1)) (xs (i + 2)) (xs (i + 3)) htr hV hw hk hd)) ⟨rfl, rfl, by decide, by decide⟩ ⟨by omega, by omega⟩ rfl rfl (Nat.le_of_ble_eq_true rfl) dL_law_2437 ?_
  intro r u hu
  have hu := AP_cv (c1 := (opGrA κ (xs (i + 1)) (xs (i + 2)) (xs (i + 3)) rm row).1) (v1 := (opGrA κ (xs (i + 1)) (xs (i + 2)) (xs (i + 3)) rm row).2) hu (oc_GA pr rm row hV.1.1).1 (oc_GA pr rm row hV.1.1).2
  obtain ⟨hr, hc4, hval, hu0, hinv⟩ := hu
  refine J_istore cx (L' := (6, .int r) :: LL b (ad 0 0) (am 0) o1 o2 i) dL_law_2440 (by decide) rfl ?_
  refine J_aload_n cx dL_law_2442 rfl 4 rfl ?_
  refine J_sget cx hX hbl hbA hLn (i := i) (k := 1) (by omega) 6 1 rfl rfl (by decide) dL_law_2443 dL_law_2444 dL_law_2446 dL_law_2447 dL_law_2448 ?_
  refine J_sget cx hX hbl hbA hLn (i := i) (k := 2) (by omega) 6 1 rfl rfl (by decide) dL_law_2449 dL_law_2450 dL_law_2452 dL_law_2453 dL_law_2454 ?_
  refine J_sget cx hX hbl hbA hLn (i := i) (k := 3) (by omega) 6 1 rfl rfl (by decide) dL_law_2455 dL_law_2456 dL_law_2458 dL_law_2459 dL_law_2460 ?_
  refine J_callVl cx kL_268 (As := [.int (xs (i + 1)), .int (xs (i + 2)), .int (xs (i + 3))]) (frL (w := mW am g κ th ch cm rm row) (wr := (iW u.1 g κ u.2.1 u.2.2.1 u.2.2.2.1 u.2.2.2.2.1 ++ oL o1 g u.2.2.2.2.2) ++ oD o2 g f2) (W2 := fun _ => wW g u.1 κ u.2.1 u.2.2.1 u.2.2.2.1 u.2.2.2.2.1 o1 u.2.2.2.2.2 am κ (nI (opGrA κ (xs (i + 1)) (xs (i + 2)) (xs (i + 3)) rm row).1) ch cm ((grQ κ (xs (i + 1)) (xs (i + 2)) rm row).1) ((grQ κ (xs (i + 1)) (xs (i + 2)) rm row).2) o2 f2) (pm_m _ _ _) (fun _ => (pm_m _ _ _).symm) (tX7_growthAt l D g _ am κ th ch cm rm row (xs (i + 1)) (xs (i + 2)) (xs (i + 3)) hV.1.1)) ⟨rfl, rfl, by decide, by decide⟩ ⟨by omega, by omega⟩ rfl (iW u.1 g κ u.2.1 u.2.2.1 u.2.2.2.1 u.2.2.2.2.1 ++ oL o1 g u.2.2.2.2.2).length (at_md rfl) rfl rfl (Nat.le_of_ble_eq_true rfl) dL_law_2461 ?_
  intro r9 _ hr9
  subst hr9
  refine J_lstore cx (L' := (7, .long ((opGrA κ (xs (i + 1)) (xs (i + 2)) (xs (i + 3)) rm row).2)) :: (6, .int r) :: LL b (ad 0 0) (am 0) o1 o2 i) dL_law_2464 (by decide) rfl ?_
  refine tl_L cx (cd := _) dL_law_2466 dL_law_2467 dL_law_2470 dL_law_2472 dL_law_2477 dL_law_2479 dL_law_2482 dL_law_2483 dL_law_2484 dL_law_2485 dL_law_2487 dL_law_2488 dL_law_2493 (by decide) hr.symm hr hc4 hval (by omega) (by omega) ?_
  have hx0 : u.1 0 0 = ad 0 0 := congrFun hu0 0
  exact J_widen (by omega) (by omega) (nx u.1 _ _ _ _ _ _ _ _ _ _ _ _ hx0 hinv (Nat.le_add_right _ _))
set_option maxHeartbeats 1000000 in
theorem lw_c37 (cx : CX p l s m args meth c RL cL_law ret 9 D g A) (htr : l.stackTraces = false) (hX : va_X b Ln xs s s.heap) (hbl : b < s.heap.size) (hbA : ¬ A b) (hLn : Ln ≤ 2560) (hi : i + 5 ≤ Ln) (hV : IV κ X) (hw : WV κ cs) (hk : κ.2.2.1 1 ≤ κ.2.2.1 0) (hd : κ.2.2.1 2 + 999 < 2147483648) (hc : cells + 20 ≤ room_1.cells) (hs : slots + 120 ≤ room_1.slots) (nx : NX p l e s m args below meth c D g A Q (cells + 20) (slots + 120) (κ.2.2.1 2 + 999) (ad 0 0) am b o1 o2 i) : J p l e room_1 s m args below meth c D A 9 Q cells slots (wW g ad κ X cs lf pr o1 f1 am κ th ch cm rm row o2 f2) (LL b (ad 0 0) (am 0) o1 o2 i) 2496 [] := by
  refine J_aload_n cx dL_law_2496 rfl 4 rfl ?_
  refine J_aload cx dL_law_2497 1 rfl ?_
  refine J_callHi cx kL_269 (As := [.ref (ad 0 0), .ref o2]) (frI (w := iW ad g κ X cs lf pr ++ oD o2 g f2) (wr := oL o1 g f1 ++ mW am g κ th ch cm rm row) (W2 := fun (u : UD) => wW g u.1 κ u.2.1 u.2.2.1 u.2.2.2.1 u.2.2.2.2.1 o1 f1 am κ th ch cm rm row o2 u.2.2.2.2.2) (pm_d _ _ _ _) (fun _ => (pm_d _ _ _ _).symm) (tL_soundShare l D g _ ad κ X cs lf pr o2 f2 htr hV hw hk hd)) ⟨rfl, rfl, by decide, by decide⟩ ⟨by omega, by omega⟩ rfl rfl (Nat.le_of_ble_eq_true rfl) dL_law_2499 ?_
  intro r u hu
  obtain ⟨hr, hc4, hval, hu0, hinv⟩ := hu
  refine J_istore cx (L' := (6, .int r) :: LL b (ad 0 0) (am 0) o1 o2 i) dL_law_2502 (by decide) rfl ?_
  refine J_aload_n cx dL_law_2504 rfl 4 rfl ?_
  refine J_callVf cx kL_272 (As := []) (frF (w := mW am g κ th ch cm rm row) (wr := (iW u.1 g κ u.2.1 u.2.2.1 u.2.2.2.1 u.2.2.2.2.1 ++ oL o1 g f1) ++ oD o2 g u.2.2.2.2.2) (W2 := fun _ => wW g u.1 κ u.2.1 u.2.2.1 u.2.2.2.1 u.2.2.2.2.1 o1 f1 am κ (nI (opSound κ).1) ch cm rm row o2 u.2.2.2.2.2) (pm_m _ _ _) (fun _ => (pm_m _ _ _).symm) (tX7_soundShare l D g _ am κ th ch cm rm row hV.1.1)) ⟨rfl, rfl, by decide, by decide⟩ ⟨by omega, by omega⟩ rfl (iW u.1 g κ u.2.1 u.2.2.1 u.2.2.2.1 u.2.2.2.2.1 ++ oL o1 g f1).length (at_md rfl) rfl rfl (Nat.le_of_ble_eq_true rfl) dL_law_2505 ?_
  intro r9 _ hr9
  subst hr9
  refine J_fstore cx (L' := (7, .float ((opSound κ).2)) :: (6, .int r) :: LL b (ad 0 0) (am 0) o1 o2 i) dL_law_2508 (by decide) rfl ?_
  refine tl_th cx 5 1 rfl rfl dL_law_2510 dL_law_2511 dL_law_2514 dL_law_2516 hr.symm (by omega) (by omega) ?_
  have hx0 : u.1 0 0 = ad 0 0 := congrFun hu0 0
  have fin : J p l e room_1 s m args below meth c D A 9 Q (cells + 1 + 0) (slots + 6 + 0) (wW g u.1 κ u.2.1 u.2.2.1 u.2.2.2.1 u.2.2.2.2.1 o1 f1 am κ (nI (opSound κ).1) ch cm rm row o2 u.2.2.2.2.2) ((7, .float ((opSound κ).2)) :: (6, .int r) :: LL b (ad 0 0) (am 0) o1 o2 i) 2559 [] := J_goto cx dL_law_2559 (by decide) (J_L [2, 3, 4, 5, 6, 7] rfl (J_widen (by omega) (by omega) (nx u.1 _ _ _ _ _ _ _ _ _ _ _ _ hx0 hinv (Nat.le_add_right _ _))))
  refine J_iload cx dL_law_2521 1 rfl ?_
  refine J_if_ne cx (tgt := 2559) dL_law_2523 (by decide) (fun _ => fin) (fun h => ?_)
  have h0 : (opSound κ).1 = 0 := (nat_if_eq (by omega)).mp (hr ▸ h)
  have hq := hval h0
  refine J_aload cx dL_law_2526 3 rfl ?_
  refine J_iconst cx (v := nI 0) dL_law_2528 (by decide) ?_
  refine J_dald cx (j := 0) ((iW u.1 g κ u.2.1 u.2.2.1 u.2.2.2.1 u.2.2.2.2.1 ++ oL o1 g f1) ++ mW am g κ (nI (opSound κ).1) ch cm rm row).length at_o2 rfl (by decide) (by decide) dL_law_2529 ?_
  refine J_fload cx dL_law_2530 0 rfl ?_
  refine J_f2d cx dL_law_2532 (sound_nan (snd_0 h0) hV.1.1) ?_
  refine J_dcmp cx dL_law_2533 ?_
  exact J_if_eq cx (tgt := 2559) dL_law_2534 (by decide) (fun _ => fin) (fun h => absurd (by rw [hq]; exact snd_cmp (snd_0 h0) hV.1.1) h)
set_option maxHeartbeats 1000000 in
theorem lw_c38 (cx : CX p l s m args meth c RL cL_law ret 9 D g A) (htr : l.stackTraces = false) (hX : va_X b Ln xs s s.heap) (hbl : b < s.heap.size) (hbA : ¬ A b) (hLn : Ln ≤ 2560) (hi : i + 5 ≤ Ln) (hV : IV κ X) (hw : WV κ cs) (hk : κ.2.2.1 1 ≤ κ.2.2.1 0) (hd : κ.2.2.1 2 + 999 < 2147483648) (hc : cells + 20 ≤ room_1.cells) (hs : slots + 120 ≤ room_1.slots) (nx : NX p l e s m args below meth c D g A Q (cells + 20) (slots + 120) (κ.2.2.1 2 + 999) (ad 0 0) am b o1 o2 i) : J p l e room_1 s m args below meth c D A 9 Q cells slots (wW g ad κ X cs lf pr o1 f1 am κ th ch cm rm row o2 f2) (LL b (ad 0 0) (am 0) o1 o2 i) 2562 [] := by
  refine J_aload_n cx dL_law_2562 rfl 4 rfl ?_
  refine J_aload cx dL_law_2563 1 rfl ?_
  refine J_callHi cx kL_273 (As := [.ref (ad 0 0), .ref o2]) (frI (w := iW ad g κ X cs lf pr ++ oD o2 g f2) (wr := oL o1 g f1 ++ mW am g κ th ch cm rm row) (W2 := fun (u : UD) => wW g u.1 κ u.2.1 u.2.2.1 u.2.2.2.1 u.2.2.2.2.1 o1 f1 am κ th ch cm rm row o2 u.2.2.2.2.2) (pm_d _ _ _ _) (fun _ => (pm_d _ _ _ _).symm) (tL_meanChain l D g _ ad κ X cs lf pr o2 f2 htr hV hw hk hd)) ⟨rfl, rfl, by decide, by decide⟩ ⟨by omega, by omega⟩ rfl rfl (Nat.le_of_ble_eq_true rfl) dL_law_2565 ?_
  intro r u hu
  rw [oc_M hV.2.2.2.1 hV.1 hV.2.1 hV.2.2.1 hw.2.1 hw.2.2 ch] at hu
  obtain ⟨hr, hc4, hval, hu0, hinv⟩ := hu
  refine J_istore cx (L' := (6, .int r) :: LL b (ad 0 0) (am 0) o1 o2 i) dL_law_2568 (by decide) rfl ?_
  refine J_aload_n cx dL_law_2570 rfl 4 rfl ?_
  refine J_callVd cx kL_275 (As := []) (frD (w := mW am g κ th ch cm rm row) (wr := (iW u.1 g κ u.2.1 u.2.2.1 u.2.2.2.1 u.2.2.2.2.1 ++ oL o1 g f1) ++ oD o2 g u.2.2.2.2.2) (W2 := fun _ => wW g u.1 κ u.2.1 u.2.2.1 u.2.2.2.1 u.2.2.2.2.1 o1 f1 am κ (nI (opMean κ ch).1) ((mcK κ ch (κ.2.2.1 0)).2.2) cm rm row o2 u.2.2.2.2.2) (pm_m _ _ _) (fun _ => (pm_m _ _ _).symm) (tX7_meanChain l D g _ am κ th ch cm rm row hV.2.2.2.1)) ⟨rfl, rfl, by decide, by decide⟩ ⟨by omega, by omega⟩ rfl (iW u.1 g κ u.2.1 u.2.2.1 u.2.2.2.1 u.2.2.2.2.1 ++ oL o1 g f1).length (at_md rfl) rfl rfl (Nat.le_of_ble_eq_true rfl) dL_law_2571 ?_
  intro r9 _ hr9
  subst hr9
  refine J_dstore cx (L' := (7, .double ((opMean κ ch).2)) :: (6, .int r) :: LL b (ad 0 0) (am 0) o1 o2 i) dL_law_2574 (by decide) rfl ?_
  refine tl_th cx 5 1 rfl rfl dL_law_2576 dL_law_2577 dL_law_2580 dL_law_2582 hr.symm (by omega) (by omega) ?_
  have hx0 : u.1 0 0 = ad 0 0 := congrFun hu0 0
  have fin : J p l e room_1 s m args below meth c D A 9 Q (cells + 1 + 0) (slots + 6 + 0) (wW g u.1 κ u.2.1 u.2.2.1 u.2.2.2.1 u.2.2.2.2.1 o1 f1 am κ (nI (opMean κ ch).1) ((mcK κ ch (κ.2.2.1 0)).2.2) cm rm row o2 u.2.2.2.2.2) ((7, .double ((opMean κ ch).2)) :: (6, .int r) :: LL b (ad 0 0) (am 0) o1 o2 i) 2624 [] := J_goto cx dL_law_2624 (by decide) (J_L [2, 3, 4, 5, 6, 7] rfl (J_widen (by omega) (by omega) (nx u.1 _ _ _ _ _ _ _ _ _ _ _ _ hx0 hinv (Nat.le_add_right _ _))))
  refine J_iload cx dL_law_2587 1 rfl ?_
  refine J_if_ne cx (tgt := 2624) dL_law_2589 (by decide) (fun _ => fin) (fun h => ?_)
  have h0 : (opMean κ ch).1 = 0 := (nat_if_eq (by omega)).mp (hr ▸ h)
  have hq := hval h0
  refine J_aload cx dL_law_2592 3 rfl ?_
  refine J_iconst cx (v := nI 0) dL_law_2594 (by decide) ?_
  refine J_dald cx (j := 0) ((iW u.1 g κ u.2.1 u.2.2.1 u.2.2.2.1 u.2.2.2.2.1 ++ oL o1 g f1) ++ mW am g κ (nI (opMean κ ch).1) ((mcK κ ch (κ.2.2.1 0)).2.2) cm rm row).length at_o2 rfl (by decide) (by decide) dL_law_2595 ?_
  refine J_dload cx dL_law_2596 0 rfl ?_
  refine J_dcmp cx dL_law_2598 ?_
  refine J_if_eq cx (tgt := 2624) dL_law_2599 (by decide) (fun _ => fin) (fun h1 => ?_)
  rw [hq] at h1
  refine J_aload cx dL_law_2602 3 rfl ?_
  refine J_iconst cx (v := nI 0) dL_law_2604 (by decide) ?_
  refine J_dald cx (j := 0) ((iW u.1 g κ u.2.1 u.2.2.1 u.2.2.2.1 u.2.2.2.2.1 ++ oL o1 g f1) ++ mW am g κ (nI (opMean κ ch).1) ((mcK κ ch (κ.2.2.1 0)).2.2) cm rm row).length at_o2 rfl (by decide) (by decide) dL_law_2605 ?_
  refine J_aload cx dL_law_2606 3 rfl ?_
  refine J_iconst cx (v := nI 0) dL_law_2608 (by decide) ?_
  refine J_dald cx (j := 0) ((iW u.1 g κ u.2.1 u.2.2.1 u.2.2.2.1 u.2.2.2.2.1 ++ oL o1 g f1) ++ mW am g κ (nI (opMean κ ch).1) ((mcK κ ch (κ.2.2.1 0)).2.2) cm rm row).length at_o2 rfl (by decide) (by decide) dL_law_2609 ?_
  refine J_dcmp cx dL_law_2610 ?_
  refine J_if_eq cx (tgt := 2622) dL_law_2611 (by decide) (fun h2 => absurd (by rw [hq] at h2; exact h2) h1) (fun _ => ?_)
  refine J_dload cx dL_law_2614 0 rfl ?_
  refine J_dload cx dL_law_2616 0 rfl ?_
  refine J_dcmp cx dL_law_2618 ?_
  exact J_if_ne cx (tgt := 2624) dL_law_2619 (by decide) (fun _ => fin) (fun h3 => absurd h3 h1)
end LC
