set_option maxHeartbeats 40000000 in
set_option maxRecDepth 100000 in
theorem lawc_23 {p : Program} {e : Env} {s : State} {m : MethodId} {below : List Frame} {meth : Method} {c : Code} (l : Launch) {sc : Nat} {xs : Nat → Int32} {A : Nat → Prop} {dC : Nat → ClassId} {dI : Nat → Nat → Nat} {cy : Nat → ClassId} {a b : Nat → Nat} {g : Nat → Nat → Option Nat} (hAe : A = fun q => s.heap.size ≤ q) (C0 : lw_At p s m meth c sc 6 xs) (hC : cK dC dI cy s) {H : Heap} {locs : List Loc} {ls : Array Slot} (hP : va_P (dC, dI) vwCl (fw a cy g ++ mw b cy) H) (hD : va_D A (fw a cy g ++ mw b cy)) (hS : va_S A s.heap H locs) (hl : lv_has ls 4 [(3, .int 0), (2, .ref (b 0)), (1, .ref (a 0)), (0, .ref sc)]) : W p l e room_1 s m #[Value.ref sc] below meth c H locs 1000 100000 (lw_Z below #[Value.ref sc] s) (F0 m 795 ls []) := by
  obtain ⟨hx, hb, hr, hml, hown, hts0, hX, hbl, hlocks, -⟩ := C0
  have hown : s.vm.findClass RL = some m.cls := hown
  have hts : ∀ w ∈ v_L_law, w.before #[Value.ref sc] s = true := fun w h => hts0 w (v_L_in w h)
  have hK := hC.1
  have hA : ∀ q : Nat, s.heap.size ≤ q → A q := fun q h => by rw [hAe]; exact h
  have hbA : ¬ A sc := by
    rw [hAe]
    exact Nat.not_le.mpr hbl
  obtain ⟨x0, ex0⟩ : ∃ z : Int32, xs (Int32.toNatClampNeg 0) = z := ⟨_, rfl⟩
  obtain ⟨x1, ex1⟩ : ∃ z : Int32, xs (Int32.toNatClampNeg 1) = z := ⟨_, rfl⟩
  obtain ⟨x2, ex2⟩ : ∃ z : Int32, xs (Int32.toNatClampNeg 2) = z := ⟨_, rfl⟩
  obtain ⟨x3, ex3⟩ : ∃ z : Int32, xs (Int32.toNatClampNeg 3) = z := ⟨_, rfl⟩
  obtain ⟨x4, ex4⟩ : ∃ z : Int32, xs (Int32.toNatClampNeg 4) = z := ⟨_, rfl⟩
  obtain ⟨x5, ex5⟩ : ∃ z : Int32, xs (Int32.toNatClampNeg 5) = z := ⟨_, rfl⟩
  refine lv_aload_n hx hb dL_law_795 rfl (lv_at hl 2 rfl) ?_
  refine lv_aload_n hx hb dL_law_796 rfl (lv_at hl 3 rfl) ?_
  refine lv_iload_n hx hb dL_law_797 rfl (lv_at hl 0 rfl) ?_
  refine lv_iconst (v := 1) hx hb dL_law_798 (by decide) ?_
  refine lv_iadd hx hb dL_law_799 ?_
  refine tk_i 1 (by decide) ?_
  refine va_sld hx hb hX hbl hbA hS (show ¬ ((1 : Int32) < 0 ∨ 6 ≤ Int32.toNatClampNeg 1) by decide) dL_law_800 ?_
  refine tk_i x1 ex1 ?_
  refine lv_aload_n hx hb dL_law_801 rfl (lv_at hl 3 rfl) ?_
  refine lv_iload_n hx hb dL_law_802 rfl (lv_at hl 0 rfl) ?_
  refine lv_iconst (v := 2) hx hb dL_law_803 (by decide) ?_
  refine lv_iadd hx hb dL_law_804 ?_
  refine tk_i 2 (by decide) ?_
  refine va_sld hx hb hX hbl hbA hS (show ¬ ((2 : Int32) < 0 ∨ 6 ≤ Int32.toNatClampNeg 2) by decide) dL_law_805 ?_
  refine tk_i x2 ex2 ?_
  refine lv_aload_n hx hb dL_law_806 rfl (lv_at hl 3 rfl) ?_
  refine lv_iload_n hx hb dL_law_807 rfl (lv_at hl 0 rfl) ?_
  refine lv_iconst (v := 3) hx hb dL_law_808 (by decide) ?_
  refine lv_iadd hx hb dL_law_809 ?_
  refine tk_i 3 (by decide) ?_
  refine va_sld hx hb hX hbl hbA hS (show ¬ ((3 : Int32) < 0 ∨ 6 ≤ Int32.toNatClampNeg 3) by decide) dL_law_810 ?_
  refine tk_i x3 ex3 ?_
  refine lv_aload_n hx hb dL_law_811 rfl (lv_at hl 3 rfl) ?_
  refine lv_iload_n hx hb dL_law_812 rfl (lv_at hl 0 rfl) ?_
  refine lv_iconst (v := 4) hx hb dL_law_813 (by decide) ?_
  refine lv_iadd hx hb dL_law_814 ?_
  refine tk_i 4 (by decide) ?_
  refine va_sld hx hb hX hbl hbA hS (show ¬ ((4 : Int32) < 0 ∨ 6 ≤ Int32.toNatClampNeg 4) by decide) dL_law_815 ?_
  refine tk_i x4 ex4 ?_
  refine lv_aload_n hx hb dL_law_816 rfl (lv_at hl 3 rfl) ?_
  refine lv_iload_n hx hb dL_law_817 rfl (lv_at hl 0 rfl) ?_
  refine lv_iconst (v := 5) hx hb dL_law_818 (by decide) ?_
  refine lv_iadd hx hb dL_law_819 ?_
  refine tk_i 5 (by decide) ?_
  refine va_sld hx hb hX hbl hbA hS (show ¬ ((5 : Int32) < 0 ∨ 6 ≤ Int32.toNatClampNeg 5) by decide) dL_law_820 ?_
  refine tk_i x5 ex5 ?_
  have hPc : va_P (dC, dI) vwCl (fw a cy g) _ := hP.sub [0, 1, 2, 3, 4, 5, 6, 7, 8, 9, 10, 11, 12, 13, 14, 15, 16, 17, 18, 19, 20, 21, 22, 23, 24, 25, 26, 27, 28, 29, 30, 31, 32, 33, 34, 35, 36, 37, 38, 39, 40, 41, 42, 43, 44, 45, 46, 47, 48, 49, 50, 51, 52, 53, 54, 55] rfl
  refine tk_pi (va_runV (As := [.int x1, .int x2, .int x3, .int x4, .int x5]) (rest := []) ⟨hx, hb, hml, hown, hts⟩ (c_X11_tries l dC dI cy a g x1 x2 x3 x4 x5) (cwV 5 hts g_L_law_X11_tries_111 rfl rfl rfl (by decide +kernel) ⟨Nat.le_of_ble_eq_true rfl, Nat.le_of_ble_eq_true rfl⟩) (pv_pp hC hPc (ci := 11) (q0 := 0) rfl rfl) rfl rfl hl.1 rfl (lv_room (Nat.le_of_ble_eq_true rfl)) dL_law_821 ⟨Nat.le_of_ble_eq_true rfl, Nat.le_of_ble_eq_true rfl⟩) hP hS (fun r_ H locs hw hP hS => ?_)
  rcases hw with ⟨c1317_, rfl⟩ | ⟨c1318_, c1319_, c1320_, c1321_, rfl⟩ | ⟨c1322_, c1323_, rfl⟩ | ⟨c1324_, c1325_, c1326_, c1327_, c1328_, rfl⟩ | ⟨c1329_, c1330_, c1331_, rfl⟩ | ⟨c1332_, c1333_, c1334_, c1335_, c1336_, c1337_, rfl⟩ | ⟨c1338_, c1339_, c1340_, c1341_, rfl⟩ | ⟨c1342_, c1343_, c1344_, c1345_, c1346_, c1347_, c1348_, rfl⟩ | ⟨c1349_, c1350_, c1351_, c1352_, c1353_, rfl⟩ | ⟨c1354_, c1355_, c1356_, c1357_, c1358_, c1359_, c1360_, c1361_, rfl⟩ | ⟨c1362_, c1363_, c1364_, c1365_, c1366_, c1367_, rfl⟩ | ⟨c1368_, c1369_, c1370_, c1371_, c1372_, c1373_, c1374_, c1375_, c1376_, rfl⟩ | ⟨c1377_, c1378_, c1379_, c1380_, c1381_, c1382_, c1383_, rfl⟩ | ⟨c1384_, c1385_, c1386_, c1387_, c1388_, c1389_, c1390_, c1391_, c1392_, c1393_, rfl⟩ | ⟨c1394_, c1395_, c1396_, c1397_, c1398_, c1399_, c1400_, c1401_, rfl⟩ | ⟨c1402_, c1403_, c1404_, c1405_, c1406_, c1407_, c1408_, c1409_, c1410_, c1411_, c1412_, rfl⟩ | ⟨c1413_, c1414_, c1415_, c1416_, c1417_, c1418_, c1419_, c1420_, c1421_, rfl⟩ | ⟨c1422_, c1423_, c1424_, c1425_, c1426_, c1427_, c1428_, c1429_, c1430_, c1431_, rfl⟩ | ⟨c1432_, c1433_, c1434_, c1435_, c1436_, c1437_, c1438_, c1439_, rfl⟩ | ⟨c1440_, c1441_, rfl⟩
  · skip
    refine lv_aload_n hx hb dL_law_824 rfl (lv_at hl 1 rfl) ?_
    refine lv_aload_n hx hb dL_law_825 rfl (lv_at hl 3 rfl) ?_
    refine lv_iload_n hx hb dL_law_826 rfl (lv_at hl 0 rfl) ?_
    refine lv_iconst (v := 1) hx hb dL_law_827 (by decide) ?_
    refine lv_iadd hx hb dL_law_828 ?_
    refine tk_i 1 (by decide) ?_
    refine va_sld hx hb hX hbl hbA hS (show ¬ ((1 : Int32) < 0 ∨ 6 ≤ Int32.toNatClampNeg 1) by decide) dL_law_829 ?_
    refine tk_i x1 ex1 ?_
    refine lv_aload_n hx hb dL_law_830 rfl (lv_at hl 3 rfl) ?_
    refine lv_iload_n hx hb dL_law_831 rfl (lv_at hl 0 rfl) ?_
    refine lv_iconst (v := 2) hx hb dL_law_832 (by decide) ?_
    refine lv_iadd hx hb dL_law_833 ?_
    refine tk_i 2 (by decide) ?_
    refine va_sld hx hb hX hbl hbA hS (show ¬ ((2 : Int32) < 0 ∨ 6 ≤ Int32.toNatClampNeg 2) by decide) dL_law_834 ?_
    refine tk_i x2 ex2 ?_
    refine lv_aload_n hx hb dL_law_835 rfl (lv_at hl 3 rfl) ?_
    refine lv_iload_n hx hb dL_law_836 rfl (lv_at hl 0 rfl) ?_
    refine lv_iconst (v := 3) hx hb dL_law_837 (by decide) ?_
    refine lv_iadd hx hb dL_law_838 ?_
    refine tk_i 3 (by decide) ?_
    refine va_sld hx hb hX hbl hbA hS (show ¬ ((3 : Int32) < 0 ∨ 6 ≤ Int32.toNatClampNeg 3) by decide) dL_law_839 ?_
    refine tk_i x3 ex3 ?_
    refine lv_aload_n hx hb dL_law_840 rfl (lv_at hl 3 rfl) ?_
    refine lv_iload_n hx hb dL_law_841 rfl (lv_at hl 0 rfl) ?_
    refine lv_iconst (v := 4) hx hb dL_law_842 (by decide) ?_
    refine lv_iadd hx hb dL_law_843 ?_
    refine tk_i 4 (by decide) ?_
    refine va_sld hx hb hX hbl hbA hS (show ¬ ((4 : Int32) < 0 ∨ 6 ≤ Int32.toNatClampNeg 4) by decide) dL_law_844 ?_
    refine tk_i x4 ex4 ?_
    refine lv_aload_n hx hb dL_law_845 rfl (lv_at hl 3 rfl) ?_
    refine lv_iload_n hx hb dL_law_846 rfl (lv_at hl 0 rfl) ?_
    refine lv_iconst (v := 5) hx hb dL_law_847 (by decide) ?_
    refine lv_iadd hx hb dL_law_848 ?_
    refine tk_i 5 (by decide) ?_
    refine va_sld hx hb hX hbl hbA hS (show ¬ ((5 : Int32) < 0 ∨ 6 ≤ Int32.toNatClampNeg 5) by decide) dL_law_849 ?_
    refine tk_i x5 ex5 ?_
    have hPc : va_P (dC, dI) vwCl (mw b cy) _ := hP.sub [56, 57, 58, 59, 60, 61, 62, 63] rfl
    have hDc := hD.sub (ws' := mw b cy) [56, 57, 58, 59, 60, 61, 62, 63] (by decide) rfl
    have hFc := va_free (wc := mw b cy) hD hS hA [56, 57, 58, 59, 60, 61, 62, 63] rfl
    refine va_calli (va_runV (As := [.int x1, .int x2, .int x3, .int x4, .int x5]) (rest := [.int (-1)]) ⟨hx, hb, hml, hown, hts⟩ (c_X12_tries l dC dI cy b _ x1 x2 x3 x4 x5) (cwV 5 hts g_L_law_X12_tries_114 rfl rfl rfl (by decide +kernel) ⟨Nat.le_of_ble_eq_true rfl, Nat.le_of_ble_eq_true rfl⟩) (pv_ps hC hPc hDc (ci := 12) (q0 := 0) rfl rfl) rfl rfl hl.1 rfl (lv_room (Nat.le_of_ble_eq_true rfl)) dL_law_850 ⟨Nat.le_of_ble_eq_true rfl, Nat.le_of_ble_eq_true rfl⟩) hS (fun q _ h => hFc q h) hFc (fun r_ u t_ H1 locs ht hvm hw hB hz1 hk1 hS => ?_)
    obtain ⟨hP, hD⟩ := va_join (wr := []) (w1 := []) hP hD [56, 57, 58, 59, 60, 61, 62, 63] [] rfl rfl (by decide) (by decide) hk1 hFc va_P0 va_D0
    generalize H1 = H at hP hS ⊢
    have hP : va_P (dC, dI) vwCl ([]) H := hP
    have hD : va_D A ([]) := hD
    rcases hw with ⟨c1442_, rfl⟩ | ⟨c1443_, c1444_, rfl⟩ | ⟨c1445_, c1446_, c1447_, c1448_, rfl⟩ | ⟨c1449_, c1450_, rfl⟩ | ⟨c1451_, c1452_, c1453_, c1454_, c1455_, rfl⟩ | ⟨c1456_, c1457_, c1458_, rfl⟩ | ⟨c1459_, c1460_, c1461_, c1462_, c1463_, c1464_, rfl⟩ | ⟨c1465_, c1466_, c1467_, c1468_, rfl⟩ | ⟨c1469_, c1470_, c1471_, c1472_, c1473_, c1474_, c1475_, rfl⟩ | ⟨c1476_, c1477_, c1478_, c1479_, c1480_, rfl⟩ | ⟨c1481_, c1482_, c1483_, c1484_, c1485_, c1486_, c1487_, c1488_, rfl⟩ | ⟨c1489_, c1490_, c1491_, c1492_, c1493_, c1494_, rfl⟩ | ⟨c1495_, c1496_, c1497_, c1498_, c1499_, c1500_, c1501_, c1502_, c1503_, rfl⟩ | ⟨c1504_, c1505_, c1506_, c1507_, c1508_, c1509_, c1510_, rfl⟩ | ⟨c1511_, c1512_, c1513_, c1514_, c1515_, c1516_, c1517_, c1518_, c1519_, c1520_, rfl⟩ | ⟨c1521_, c1522_, c1523_, c1524_, c1525_, c1526_, c1527_, c1528_, rfl⟩ | ⟨c1529_, c1530_, c1531_, c1532_, c1533_, c1534_, c1535_, c1536_, c1537_, c1538_, c1539_, rfl⟩ | ⟨c1540_, c1541_, c1542_, c1543_, c1544_, c1545_, c1546_, c1547_, c1548_, rfl⟩ | ⟨c1549_, c1550_, c1551_, c1552_, c1553_, c1554_, c1555_, c1556_, c1557_, c1558_, rfl⟩ | ⟨c1559_, c1560_, c1561_, c1562_, c1563_, c1564_, c1565_, c1566_, rfl⟩
    · skip
      refine lv_icmp_eq (tgt := 983) hx hb dL_law_853 (by decide) (fun _ => ?_) (fun c9_ => absurd (by decide) c9_)
      refine lv_iinc (v := 6) (lv' := [(3, .int 6), (2, .ref (b 0)), (1, .ref (a 0)), (0, .ref sc)]) hx hb dL_law_983 hl (k := 0) rfl (by decide) (by decide) rfl (fun ls hl => ?_)
      refine lv_goto (tgt := 18) hx hb dL_law_986 (by decide) ?_
      refine lv_iload_n hx hb dL_law_18 rfl (lv_at hl 0 rfl) ?_
      refine lv_aload_n hx hb dL_law_19 rfl (lv_at hl 3 rfl) ?_
      refine va_slen hx hb hX hbl hbA hS dL_law_20 ?_
      refine tk_i 6 (by decide) ?_
      refine lv_bipush (v := 6) hx hb dL_law_21 (by decide) ?_
      refine lv_isub hx hb dL_law_23 ?_
      refine tk_i 0 (by decide) ?_
      refine lv_icmp_gt (tgt := 989) hx hb dL_law_24 (by decide) (fun _ => ?_) (fun c9_ => absurd (by decide) c9_)
      refine lv_iconst (v := 1) hx hb dL_law_989 (by decide) ?_
      refine va_forget (fun q hq => by have h := hS.2.2 q hq; rw [hAe] at h; exact h) ?_
      refine W.widen (k := 600000) (n := 7302249) (Nat.le_of_ble_eq_true rfl) (Nat.le_of_ble_eq_true rfl) ?_
      exact lw_ret hx hb hr hlocks dL_law_990
    · skip
      exfalso
      have z0_ := tz_lt_r c1317_ (show (0 : Int32).toInt = 0 by decide)
      have z1_ := tz_nlt_r c1443_ (show (0 : Int32).toInt = 0 by decide)
      omega
    · skip
      exfalso
      have z0_ := tz_lt_r c1317_ (show (0 : Int32).toInt = 0 by decide)
      have z1_ := tz_nlt_r c1445_ (show (0 : Int32).toInt = 0 by decide)
      omega
    · skip
      exfalso
      have z0_ := tz_lt_r c1317_ (show (0 : Int32).toInt = 0 by decide)
      have z1_ := tz_eq_r c1450_ (show (0 : Int32).toInt = 0 by decide)
      omega
    · skip
      exfalso
      have z0_ := tz_lt_r c1317_ (show (0 : Int32).toInt = 0 by decide)
      have z1_ := tz_nlt_r c1451_ (show (0 : Int32).toInt = 0 by decide)
      omega
    · skip
      exfalso
      have z0_ := tz_lt_r c1317_ (show (0 : Int32).toInt = 0 by decide)
      have z1_ := tz_eq_r c1458_ (show (0 : Int32).toInt = 0 by decide)
      omega
    · skip
      exfalso
      have z0_ := tz_lt_r c1317_ (show (0 : Int32).toInt = 0 by decide)
      have z1_ := tz_nlt_r c1459_ (show (0 : Int32).toInt = 0 by decide)
      omega
    · skip
      exfalso
      have z0_ := tz_lt_r c1317_ (show (0 : Int32).toInt = 0 by decide)
      have z1_ := tz_eq_r c1468_ (show (0 : Int32).toInt = 0 by decide)
      omega
    · skip
      exfalso
      have z0_ := tz_lt_r c1317_ (show (0 : Int32).toInt = 0 by decide)
      have z1_ := tz_nlt_r c1469_ (show (0 : Int32).toInt = 0 by decide)
      omega
    · skip
      exfalso
      have z0_ := tz_lt_r c1317_ (show (0 : Int32).toInt = 0 by decide)
      have z1_ := tz_eq_r c1480_ (show (0 : Int32).toInt = 0 by decide)
      omega
    · skip
      exfalso
      have z0_ := tz_lt_r c1317_ (show (0 : Int32).toInt = 0 by decide)
      have z1_ := tz_nlt_r c1481_ (show (0 : Int32).toInt = 0 by decide)
      omega
    · skip
      exfalso
      have z0_ := tz_lt_r c1317_ (show (0 : Int32).toInt = 0 by decide)
      have z1_ := tz_eq_r c1494_ (show (0 : Int32).toInt = 0 by decide)
      omega
    · skip
      exfalso
      have z0_ := tz_lt_r c1317_ (show (0 : Int32).toInt = 0 by decide)
      have z1_ := tz_nlt_r c1495_ (show (0 : Int32).toInt = 0 by decide)
      omega
    · skip
      exfalso
      have z0_ := tz_lt_r c1317_ (show (0 : Int32).toInt = 0 by decide)
      have z1_ := tz_eq_r c1510_ (show (0 : Int32).toInt = 0 by decide)
      omega
    · skip
      exfalso
      have z0_ := tz_lt_r c1317_ (show (0 : Int32).toInt = 0 by decide)
      have z1_ := tz_nlt_r c1511_ (show (0 : Int32).toInt = 0 by decide)
      omega
    · skip
      exfalso
      have z0_ := tz_lt_r c1317_ (show (0 : Int32).toInt = 0 by decide)
      have z1_ := tz_eq_r c1528_ (show (0 : Int32).toInt = 0 by decide)
      omega
    · skip
      exfalso
      have z0_ := tz_lt_r c1317_ (show (0 : Int32).toInt = 0 by decide)
      have z1_ := tz_nlt_r c1529_ (show (0 : Int32).toInt = 0 by decide)
      omega
    · skip
      exfalso
      have z0_ := tz_lt_r c1317_ (show (0 : Int32).toInt = 0 by decide)
      have z1_ := tz_eq_r c1548_ (show (0 : Int32).toInt = 0 by decide)
      omega
    · skip
      exfalso
      have z0_ := tz_lt_r c1317_ (show (0 : Int32).toInt = 0 by decide)
      have z1_ := tz_nlt_r c1549_ (show (0 : Int32).toInt = 0 by decide)
      omega
    · skip
      subst c1565_
      exfalso
      have z0_ := tz_lt_r c1317_ (show (0 : Int32).toInt = 0 by decide)
      have z1_ := tz_eq_r c1566_ (show (0 : Int32).toInt = 0 by decide)
      omega
  · skip
    refine lv_aload_n hx hb dL_law_824 rfl (lv_at hl 1 rfl) ?_
    refine lv_aload_n hx hb dL_law_825 rfl (lv_at hl 3 rfl) ?_
    refine lv_iload_n hx hb dL_law_826 rfl (lv_at hl 0 rfl) ?_
    refine lv_iconst (v := 1) hx hb dL_law_827 (by decide) ?_
    refine lv_iadd hx hb dL_law_828 ?_
    refine tk_i 1 (by decide) ?_
    refine va_sld hx hb hX hbl hbA hS (show ¬ ((1 : Int32) < 0 ∨ 6 ≤ Int32.toNatClampNeg 1) by decide) dL_law_829 ?_
    refine tk_i x1 ex1 ?_
    refine lv_aload_n hx hb dL_law_830 rfl (lv_at hl 3 rfl) ?_
    refine lv_iload_n hx hb dL_law_831 rfl (lv_at hl 0 rfl) ?_
    refine lv_iconst (v := 2) hx hb dL_law_832 (by decide) ?_
    refine lv_iadd hx hb dL_law_833 ?_
    refine tk_i 2 (by decide) ?_
    refine va_sld hx hb hX hbl hbA hS (show ¬ ((2 : Int32) < 0 ∨ 6 ≤ Int32.toNatClampNeg 2) by decide) dL_law_834 ?_
    refine tk_i x2 ex2 ?_
    refine lv_aload_n hx hb dL_law_835 rfl (lv_at hl 3 rfl) ?_
    refine lv_iload_n hx hb dL_law_836 rfl (lv_at hl 0 rfl) ?_
    refine lv_iconst (v := 3) hx hb dL_law_837 (by decide) ?_
    refine lv_iadd hx hb dL_law_838 ?_
    refine tk_i 3 (by decide) ?_
    refine va_sld hx hb hX hbl hbA hS (show ¬ ((3 : Int32) < 0 ∨ 6 ≤ Int32.toNatClampNeg 3) by decide) dL_law_839 ?_
    refine tk_i x3 ex3 ?_
    refine lv_aload_n hx hb dL_law_840 rfl (lv_at hl 3 rfl) ?_
    refine lv_iload_n hx hb dL_law_841 rfl (lv_at hl 0 rfl) ?_
    refine lv_iconst (v := 4) hx hb dL_law_842 (by decide) ?_
    refine lv_iadd hx hb dL_law_843 ?_
    refine tk_i 4 (by decide) ?_
    refine va_sld hx hb hX hbl hbA hS (show ¬ ((4 : Int32) < 0 ∨ 6 ≤ Int32.toNatClampNeg 4) by decide) dL_law_844 ?_
    refine tk_i x4 ex4 ?_
    refine lv_aload_n hx hb dL_law_845 rfl (lv_at hl 3 rfl) ?_
    refine lv_iload_n hx hb dL_law_846 rfl (lv_at hl 0 rfl) ?_
    refine lv_iconst (v := 5) hx hb dL_law_847 (by decide) ?_
    refine lv_iadd hx hb dL_law_848 ?_
    refine tk_i 5 (by decide) ?_
    refine va_sld hx hb hX hbl hbA hS (show ¬ ((5 : Int32) < 0 ∨ 6 ≤ Int32.toNatClampNeg 5) by decide) dL_law_849 ?_
    refine tk_i x5 ex5 ?_
    have hPc : va_P (dC, dI) vwCl (mw b cy) _ := hP.sub [56, 57, 58, 59, 60, 61, 62, 63] rfl
    have hDc := hD.sub (ws' := mw b cy) [56, 57, 58, 59, 60, 61, 62, 63] (by decide) rfl
    have hFc := va_free (wc := mw b cy) hD hS hA [56, 57, 58, 59, 60, 61, 62, 63] rfl
    refine va_calli (va_runV (As := [.int x1, .int x2, .int x3, .int x4, .int x5]) (rest := [.int 0]) ⟨hx, hb, hml, hown, hts⟩ (c_X12_tries l dC dI cy b _ x1 x2 x3 x4 x5) (cwV 5 hts g_L_law_X12_tries_114 rfl rfl rfl (by decide +kernel) ⟨Nat.le_of_ble_eq_true rfl, Nat.le_of_ble_eq_true rfl⟩) (pv_ps hC hPc hDc (ci := 12) (q0 := 0) rfl rfl) rfl rfl hl.1 rfl (lv_room (Nat.le_of_ble_eq_true rfl)) dL_law_850 ⟨Nat.le_of_ble_eq_true rfl, Nat.le_of_ble_eq_true rfl⟩) hS (fun q _ h => hFc q h) hFc (fun r_ u t_ H1 locs ht hvm hw hB hz1 hk1 hS => ?_)
    obtain ⟨hP, hD⟩ := va_join (wr := []) (w1 := []) hP hD [56, 57, 58, 59, 60, 61, 62, 63] [] rfl rfl (by decide) (by decide) hk1 hFc va_P0 va_D0
    generalize H1 = H at hP hS ⊢
    have hP : va_P (dC, dI) vwCl ([]) H := hP
    have hD : va_D A ([]) := hD
    rcases hw with ⟨c1567_, rfl⟩ | ⟨c1568_, c1569_, rfl⟩ | ⟨c1570_, c1571_, c1572_, c1573_, rfl⟩ | ⟨c1574_, c1575_, rfl⟩ | ⟨c1576_, c1577_, c1578_, c1579_, c1580_, rfl⟩ | ⟨c1581_, c1582_, c1583_, rfl⟩ | ⟨c1584_, c1585_, c1586_, c1587_, c1588_, c1589_, rfl⟩ | ⟨c1590_, c1591_, c1592_, c1593_, rfl⟩ | ⟨c1594_, c1595_, c1596_, c1597_, c1598_, c1599_, c1600_, rfl⟩ | ⟨c1601_, c1602_, c1603_, c1604_, c1605_, rfl⟩ | ⟨c1606_, c1607_, c1608_, c1609_, c1610_, c1611_, c1612_, c1613_, rfl⟩ | ⟨c1614_, c1615_, c1616_, c1617_, c1618_, c1619_, rfl⟩ | ⟨c1620_, c1621_, c1622_, c1623_, c1624_, c1625_, c1626_, c1627_, c1628_, rfl⟩ | ⟨c1629_, c1630_, c1631_, c1632_, c1633_, c1634_, c1635_, rfl⟩ | ⟨c1636_, c1637_, c1638_, c1639_, c1640_, c1641_, c1642_, c1643_, c1644_, c1645_, rfl⟩ | ⟨c1646_, c1647_, c1648_, c1649_, c1650_, c1651_, c1652_, c1653_, rfl⟩ | ⟨c1654_, c1655_, c1656_, c1657_, c1658_, c1659_, c1660_, c1661_, c1662_, c1663_, c1664_, rfl⟩ | ⟨c1665_, c1666_, c1667_, c1668_, c1669_, c1670_, c1671_, c1672_, c1673_, rfl⟩ | ⟨c1674_, c1675_, c1676_, c1677_, c1678_, c1679_, c1680_, c1681_, c1682_, c1683_, rfl⟩ | ⟨c1684_, c1685_, c1686_, c1687_, c1688_, c1689_, c1690_, c1691_, rfl⟩
    · skip
      exfalso
      have z0_ := tz_nlt_r c1318_ (show (0 : Int32).toInt = 0 by decide)
      have z1_ := tz_le_r c1319_ (show (4 : Int32).toInt = 4 by decide)
      have z2_ := tz_neq_r c1321_ (show (0 : Int32).toInt = 0 by decide)
      have z3_ := tz_lt_r c1567_ (show (0 : Int32).toInt = 0 by decide)
      omega
    · skip
      exfalso
      have z0_ := tz_nlt_r c1318_ (show (0 : Int32).toInt = 0 by decide)
      have z1_ := tz_le_r c1319_ (show (4 : Int32).toInt = 4 by decide)
      have z2_ := tz_neq_r c1321_ (show (0 : Int32).toInt = 0 by decide)
      have z3_ := tz_lt_l c1569_ (show (4 : Int32).toInt = 4 by decide)
      omega
    · skip
      refine lv_icmp_eq (tgt := 983) hx hb dL_law_853 (by decide) (fun _ => ?_) (fun c9_ => absurd (by decide) c9_)
      refine lv_iinc (v := 6) (lv' := [(3, .int 6), (2, .ref (b 0)), (1, .ref (a 0)), (0, .ref sc)]) hx hb dL_law_983 hl (k := 0) rfl (by decide) (by decide) rfl (fun ls hl => ?_)
      refine lv_goto (tgt := 18) hx hb dL_law_986 (by decide) ?_
      refine lv_iload_n hx hb dL_law_18 rfl (lv_at hl 0 rfl) ?_
      refine lv_aload_n hx hb dL_law_19 rfl (lv_at hl 3 rfl) ?_
      refine va_slen hx hb hX hbl hbA hS dL_law_20 ?_
      refine tk_i 6 (by decide) ?_
      refine lv_bipush (v := 6) hx hb dL_law_21 (by decide) ?_
      refine lv_isub hx hb dL_law_23 ?_
      refine tk_i 0 (by decide) ?_
      refine lv_icmp_gt (tgt := 989) hx hb dL_law_24 (by decide) (fun _ => ?_) (fun c9_ => absurd (by decide) c9_)
      refine lv_iconst (v := 1) hx hb dL_law_989 (by decide) ?_
      refine va_forget (fun q hq => by have h := hS.2.2 q hq; rw [hAe] at h; exact h) ?_
      refine W.widen (k := 600000) (n := 7302249) (Nat.le_of_ble_eq_true rfl) (Nat.le_of_ble_eq_true rfl) ?_
      exact lw_ret hx hb hr hlocks dL_law_990
    · skip
      exfalso
      have z0_ := tz_nlt_r c1318_ (show (0 : Int32).toInt = 0 by decide)
      have z1_ := tz_le_r c1319_ (show (4 : Int32).toInt = 4 by decide)
      have z2_ := tz_neq_r c1321_ (show (0 : Int32).toInt = 0 by decide)
      have z3_ := tz_eq_r c1575_ (show (0 : Int32).toInt = 0 by decide)
      omega
    · skip
      exfalso
      have z0_ := tz_lt_r c1320_ (show (0 : Int32).toInt = 0 by decide)
      have z1_ := tz_nlt_r c1578_ (show (0 : Int32).toInt = 0 by decide)
      omega
    · skip
      exfalso
      have z0_ := tz_lt_r c1320_ (show (0 : Int32).toInt = 0 by decide)
      have z1_ := tz_nlt_r c1581_ (show (0 : Int32).toInt = 0 by decide)
      omega
    · skip
      exfalso
      have z0_ := tz_lt_r c1320_ (show (0 : Int32).toInt = 0 by decide)
      have z1_ := tz_nlt_r c1586_ (show (0 : Int32).toInt = 0 by decide)
      omega
    · skip
      exfalso
      have z0_ := tz_lt_r c1320_ (show (0 : Int32).toInt = 0 by decide)
      have z1_ := tz_nlt_r c1590_ (show (0 : Int32).toInt = 0 by decide)
      omega
    · skip
      exfalso
      have z0_ := tz_lt_r c1320_ (show (0 : Int32).toInt = 0 by decide)
      have z1_ := tz_nlt_r c1596_ (show (0 : Int32).toInt = 0 by decide)
      omega
    · skip
      exfalso
      have z0_ := tz_lt_r c1320_ (show (0 : Int32).toInt = 0 by decide)
      have z1_ := tz_nlt_r c1601_ (show (0 : Int32).toInt = 0 by decide)
      omega
    · skip
      exfalso
      have z0_ := tz_lt_r c1320_ (show (0 : Int32).toInt = 0 by decide)
      have z1_ := tz_nlt_r c1608_ (show (0 : Int32).toInt = 0 by decide)
      omega
    · skip
      exfalso
      have z0_ := tz_lt_r c1320_ (show (0 : Int32).toInt = 0 by decide)
      have z1_ := tz_nlt_r c1614_ (show (0 : Int32).toInt = 0 by decide)
      omega
    · skip
      exfalso
      have z0_ := tz_lt_r c1320_ (show (0 : Int32).toInt = 0 by decide)
      have z1_ := tz_nlt_r c1622_ (show (0 : Int32).toInt = 0 by decide)
      omega
    · skip
      exfalso
      have z0_ := tz_lt_r c1320_ (show (0 : Int32).toInt = 0 by decide)
      have z1_ := tz_nlt_r c1629_ (show (0 : Int32).toInt = 0 by decide)
      omega
    · skip
      exfalso
      have z0_ := tz_lt_r c1320_ (show (0 : Int32).toInt = 0 by decide)
      have z1_ := tz_nlt_r c1638_ (show (0 : Int32).toInt = 0 by decide)
      omega
    · skip
      exfalso
      have z0_ := tz_lt_r c1320_ (show (0 : Int32).toInt = 0 by decide)
      have z1_ := tz_nlt_r c1646_ (show (0 : Int32).toInt = 0 by decide)
      omega
    · skip
      exfalso
      have z0_ := tz_lt_r c1320_ (show (0 : Int32).toInt = 0 by decide)
      have z1_ := tz_nlt_r c1656_ (show (0 : Int32).toInt = 0 by decide)
      omega
    · skip
      exfalso
      have z0_ := tz_lt_r c1320_ (show (0 : Int32).toInt = 0 by decide)
      have z1_ := tz_nlt_r c1665_ (show (0 : Int32).toInt = 0 by decide)
      omega
    · skip
      exfalso
      have z0_ := tz_lt_r c1320_ (show (0 : Int32).toInt = 0 by decide)
      have z1_ := tz_nlt_r c1676_ (show (0 : Int32).toInt = 0 by decide)
      omega
    · skip
      exfalso
      have z0_ := tz_lt_r c1320_ (show (0 : Int32).toInt = 0 by decide)
      have z1_ := tz_nlt_r c1684_ (show (0 : Int32).toInt = 0 by decide)
      omega
  · skip
    subst c1323_
    refine lv_aload_n hx hb dL_law_824 rfl (lv_at hl 1 rfl) ?_
    refine lv_aload_n hx hb dL_law_825 rfl (lv_at hl 3 rfl) ?_
    refine lv_iload_n hx hb dL_law_826 rfl (lv_at hl 0 rfl) ?_
    refine lv_iconst (v := 1) hx hb dL_law_827 (by decide) ?_
    refine lv_iadd hx hb dL_law_828 ?_
    refine tk_i 1 (by decide) ?_
    refine va_sld hx hb hX hbl hbA hS (show ¬ ((1 : Int32) < 0 ∨ 6 ≤ Int32.toNatClampNeg 1) by decide) dL_law_829 ?_
    refine tk_i x1 ex1 ?_
    refine lv_aload_n hx hb dL_law_830 rfl (lv_at hl 3 rfl) ?_
    refine lv_iload_n hx hb dL_law_831 rfl (lv_at hl 0 rfl) ?_
    refine lv_iconst (v := 2) hx hb dL_law_832 (by decide) ?_
    refine lv_iadd hx hb dL_law_833 ?_
    refine tk_i 2 (by decide) ?_
    refine va_sld hx hb hX hbl hbA hS (show ¬ ((2 : Int32) < 0 ∨ 6 ≤ Int32.toNatClampNeg 2) by decide) dL_law_834 ?_
    refine tk_i x2 ex2 ?_
    refine lv_aload_n hx hb dL_law_835 rfl (lv_at hl 3 rfl) ?_
    refine lv_iload_n hx hb dL_law_836 rfl (lv_at hl 0 rfl) ?_
    refine lv_iconst (v := 3) hx hb dL_law_837 (by decide) ?_
    refine lv_iadd hx hb dL_law_838 ?_
    refine tk_i 3 (by decide) ?_
    refine va_sld hx hb hX hbl hbA hS (show ¬ ((3 : Int32) < 0 ∨ 6 ≤ Int32.toNatClampNeg 3) by decide) dL_law_839 ?_
    refine tk_i x3 ex3 ?_
    refine lv_aload_n hx hb dL_law_840 rfl (lv_at hl 3 rfl) ?_
    refine lv_iload_n hx hb dL_law_841 rfl (lv_at hl 0 rfl) ?_
    refine lv_iconst (v := 4) hx hb dL_law_842 (by decide) ?_
    refine lv_iadd hx hb dL_law_843 ?_
    refine tk_i 4 (by decide) ?_
    refine va_sld hx hb hX hbl hbA hS (show ¬ ((4 : Int32) < 0 ∨ 6 ≤ Int32.toNatClampNeg 4) by decide) dL_law_844 ?_
    refine tk_i x4 ex4 ?_
    refine lv_aload_n hx hb dL_law_845 rfl (lv_at hl 3 rfl) ?_
    refine lv_iload_n hx hb dL_law_846 rfl (lv_at hl 0 rfl) ?_
    refine lv_iconst (v := 5) hx hb dL_law_847 (by decide) ?_
    refine lv_iadd hx hb dL_law_848 ?_
    refine tk_i 5 (by decide) ?_
    refine va_sld hx hb hX hbl hbA hS (show ¬ ((5 : Int32) < 0 ∨ 6 ≤ Int32.toNatClampNeg 5) by decide) dL_law_849 ?_
    refine tk_i 0 ex5 ?_
    have hPc : va_P (dC, dI) vwCl (mw b cy) _ := hP.sub [56, 57, 58, 59, 60, 61, 62, 63] rfl
    have hDc := hD.sub (ws' := mw b cy) [56, 57, 58, 59, 60, 61, 62, 63] (by decide) rfl
    have hFc := va_free (wc := mw b cy) hD hS hA [56, 57, 58, 59, 60, 61, 62, 63] rfl
    refine va_calli (va_runV (As := [.int x1, .int x2, .int x3, .int x4, .int 0]) (rest := [.int (-1)]) ⟨hx, hb, hml, hown, hts⟩ (c_X12_tries l dC dI cy b _ x1 x2 x3 x4 0) (cwV 5 hts g_L_law_X12_tries_114 rfl rfl rfl (by decide +kernel) ⟨Nat.le_of_ble_eq_true rfl, Nat.le_of_ble_eq_true rfl⟩) (pv_ps hC hPc hDc (ci := 12) (q0 := 0) rfl rfl) rfl rfl hl.1 rfl (lv_room (Nat.le_of_ble_eq_true rfl)) dL_law_850 ⟨Nat.le_of_ble_eq_true rfl, Nat.le_of_ble_eq_true rfl⟩) hS (fun q _ h => hFc q h) hFc (fun r_ u t_ H1 locs ht hvm hw hB hz1 hk1 hS => ?_)
    obtain ⟨hP, hD⟩ := va_join (wr := []) (w1 := []) hP hD [56, 57, 58, 59, 60, 61, 62, 63] [] rfl rfl (by decide) (by decide) hk1 hFc va_P0 va_D0
    generalize H1 = H at hP hS ⊢
    have hP : va_P (dC, dI) vwCl ([]) H := hP
    have hD : va_D A ([]) := hD
    rcases hw with ⟨c1692_, rfl⟩ | ⟨-, c1694_, rfl⟩ | ⟨-, -, c1697_, c1698_, rfl⟩ | ⟨c1699_, -, rfl⟩ | ⟨-, -, c1703_, c1704_, c1705_, rfl⟩ | ⟨c1706_, c1707_, -, rfl⟩ | ⟨-, -, c1711_, c1712_, c1713_, c1714_, rfl⟩ | ⟨c1715_, c1716_, c1717_, -, rfl⟩ | ⟨-, -, c1721_, c1722_, c1723_, c1724_, c1725_, rfl⟩ | ⟨c1726_, c1727_, c1728_, c1729_, -, rfl⟩ | ⟨-, -, c1733_, c1734_, c1735_, c1736_, c1737_, c1738_, rfl⟩ | ⟨c1739_, c1740_, c1741_, c1742_, c1743_, -, rfl⟩ | ⟨-, -, c1747_, c1748_, c1749_, c1750_, c1751_, c1752_, c1753_, rfl⟩ | ⟨c1754_, c1755_, c1756_, c1757_, c1758_, c1759_, -, rfl⟩ | ⟨-, -, c1763_, c1764_, c1765_, c1766_, c1767_, c1768_, c1769_, c1770_, rfl⟩ | ⟨c1771_, c1772_, c1773_, c1774_, c1775_, c1776_, c1777_, -, rfl⟩ | ⟨-, -, c1781_, c1782_, c1783_, c1784_, c1785_, c1786_, c1787_, c1788_, c1789_, rfl⟩ | ⟨c1790_, c1791_, c1792_, c1793_, c1794_, c1795_, c1796_, c1797_, -, rfl⟩ | ⟨-, -, c1801_, c1802_, c1803_, c1804_, c1805_, c1806_, c1807_, c1808_, rfl⟩ | ⟨c1809_, c1810_, c1811_, c1812_, c1813_, c1814_, c1815_, -, rfl⟩
    · skip
      exact absurd c1692_ (by decide)
    · skip
      exact absurd c1694_ (by decide)
    · skip
      exact absurd c1698_ (by decide)
    · skip
      refine lv_icmp_eq (tgt := 983) hx hb dL_law_853 (by decide) (fun _ => ?_) (fun c9_ => absurd (by decide) c9_)
      refine lv_iinc (v := 6) (lv' := [(3, .int 6), (2, .ref (b 0)), (1, .ref (a 0)), (0, .ref sc)]) hx hb dL_law_983 hl (k := 0) rfl (by decide) (by decide) rfl (fun ls hl => ?_)
      refine lv_goto (tgt := 18) hx hb dL_law_986 (by decide) ?_
      refine lv_iload_n hx hb dL_law_18 rfl (lv_at hl 0 rfl) ?_
      refine lv_aload_n hx hb dL_law_19 rfl (lv_at hl 3 rfl) ?_
      refine va_slen hx hb hX hbl hbA hS dL_law_20 ?_
      refine tk_i 6 (by decide) ?_
      refine lv_bipush (v := 6) hx hb dL_law_21 (by decide) ?_
      refine lv_isub hx hb dL_law_23 ?_
      refine tk_i 0 (by decide) ?_
      refine lv_icmp_gt (tgt := 989) hx hb dL_law_24 (by decide) (fun _ => ?_) (fun c9_ => absurd (by decide) c9_)
      refine lv_iconst (v := 1) hx hb dL_law_989 (by decide) ?_
      refine va_forget (fun q hq => by have h := hS.2.2 q hq; rw [hAe] at h; exact h) ?_
      refine W.widen (k := 600000) (n := 7302249) (Nat.le_of_ble_eq_true rfl) (Nat.le_of_ble_eq_true rfl) ?_
      exact lw_ret hx hb hr hlocks dL_law_990
    · skip
      exact absurd c1705_ (by decide)
    · skip
      exfalso
      have z0_ := tz_lt_r c1322_ (show (0 : Int32).toInt = 0 by decide)
      have z1_ := tz_nlt_r c1706_ (show (0 : Int32).toInt = 0 by decide)
      omega
    · skip
      exact absurd c1714_ (by decide)
    · skip
      exfalso
      have z0_ := tz_lt_r c1322_ (show (0 : Int32).toInt = 0 by decide)
      have z1_ := tz_nlt_r c1715_ (show (0 : Int32).toInt = 0 by decide)
      omega
    · skip
      exact absurd c1725_ (by decide)
    · skip
      exfalso
      have z0_ := tz_lt_r c1322_ (show (0 : Int32).toInt = 0 by decide)
      have z1_ := tz_nlt_r c1726_ (show (0 : Int32).toInt = 0 by decide)
      omega
    · skip
      exact absurd c1738_ (by decide)
    · skip
      exfalso
      have z0_ := tz_lt_r c1322_ (show (0 : Int32).toInt = 0 by decide)
      have z1_ := tz_nlt_r c1739_ (show (0 : Int32).toInt = 0 by decide)
      omega
    · skip
      exact absurd c1753_ (by decide)
    · skip
      exfalso
      have z0_ := tz_lt_r c1322_ (show (0 : Int32).toInt = 0 by decide)
      have z1_ := tz_nlt_r c1754_ (show (0 : Int32).toInt = 0 by decide)
      omega
    · skip
      exact absurd c1770_ (by decide)
    · skip
      exfalso
      have z0_ := tz_lt_r c1322_ (show (0 : Int32).toInt = 0 by decide)
      have z1_ := tz_nlt_r c1771_ (show (0 : Int32).toInt = 0 by decide)
      omega
    · skip
      exact absurd c1789_ (by decide)
    · skip
      exfalso
      have z0_ := tz_lt_r c1322_ (show (0 : Int32).toInt = 0 by decide)
      have z1_ := tz_nlt_r c1790_ (show (0 : Int32).toInt = 0 by decide)
      omega
    · skip
      exact absurd c1808_ (by decide)
    · skip
      exfalso
      have z0_ := tz_lt_r c1322_ (show (0 : Int32).toInt = 0 by decide)
      have z1_ := tz_nlt_r c1809_ (show (0 : Int32).toInt = 0 by decide)
      omega
  · skip
    refine lv_aload_n hx hb dL_law_824 rfl (lv_at hl 1 rfl) ?_
    refine lv_aload_n hx hb dL_law_825 rfl (lv_at hl 3 rfl) ?_
    refine lv_iload_n hx hb dL_law_826 rfl (lv_at hl 0 rfl) ?_
    refine lv_iconst (v := 1) hx hb dL_law_827 (by decide) ?_
    refine lv_iadd hx hb dL_law_828 ?_
    refine tk_i 1 (by decide) ?_
    refine va_sld hx hb hX hbl hbA hS (show ¬ ((1 : Int32) < 0 ∨ 6 ≤ Int32.toNatClampNeg 1) by decide) dL_law_829 ?_
    refine tk_i x1 ex1 ?_
    refine lv_aload_n hx hb dL_law_830 rfl (lv_at hl 3 rfl) ?_
    refine lv_iload_n hx hb dL_law_831 rfl (lv_at hl 0 rfl) ?_
    refine lv_iconst (v := 2) hx hb dL_law_832 (by decide) ?_
    refine lv_iadd hx hb dL_law_833 ?_
    refine tk_i 2 (by decide) ?_
    refine va_sld hx hb hX hbl hbA hS (show ¬ ((2 : Int32) < 0 ∨ 6 ≤ Int32.toNatClampNeg 2) by decide) dL_law_834 ?_
    refine tk_i x2 ex2 ?_
    refine lv_aload_n hx hb dL_law_835 rfl (lv_at hl 3 rfl) ?_
    refine lv_iload_n hx hb dL_law_836 rfl (lv_at hl 0 rfl) ?_
    refine lv_iconst (v := 3) hx hb dL_law_837 (by decide) ?_
    refine lv_iadd hx hb dL_law_838 ?_
    refine tk_i 3 (by decide) ?_
    refine va_sld hx hb hX hbl hbA hS (show ¬ ((3 : Int32) < 0 ∨ 6 ≤ Int32.toNatClampNeg 3) by decide) dL_law_839 ?_
    refine tk_i x3 ex3 ?_
    refine lv_aload_n hx hb dL_law_840 rfl (lv_at hl 3 rfl) ?_
    refine lv_iload_n hx hb dL_law_841 rfl (lv_at hl 0 rfl) ?_
    refine lv_iconst (v := 4) hx hb dL_law_842 (by decide) ?_
    refine lv_iadd hx hb dL_law_843 ?_
    refine tk_i 4 (by decide) ?_
    refine va_sld hx hb hX hbl hbA hS (show ¬ ((4 : Int32) < 0 ∨ 6 ≤ Int32.toNatClampNeg 4) by decide) dL_law_844 ?_
    refine tk_i x4 ex4 ?_
    refine lv_aload_n hx hb dL_law_845 rfl (lv_at hl 3 rfl) ?_
    refine lv_iload_n hx hb dL_law_846 rfl (lv_at hl 0 rfl) ?_
    refine lv_iconst (v := 5) hx hb dL_law_847 (by decide) ?_
    refine lv_iadd hx hb dL_law_848 ?_
    refine tk_i 5 (by decide) ?_
    refine va_sld hx hb hX hbl hbA hS (show ¬ ((5 : Int32) < 0 ∨ 6 ≤ Int32.toNatClampNeg 5) by decide) dL_law_849 ?_
    refine tk_i x5 ex5 ?_
    have hPc : va_P (dC, dI) vwCl (mw b cy) _ := hP.sub [56, 57, 58, 59, 60, 61, 62, 63] rfl
    have hDc := hD.sub (ws' := mw b cy) [56, 57, 58, 59, 60, 61, 62, 63] (by decide) rfl
    have hFc := va_free (wc := mw b cy) hD hS hA [56, 57, 58, 59, 60, 61, 62, 63] rfl
    refine va_calli (va_runV (As := [.int x1, .int x2, .int x3, .int x4, .int x5]) (rest := [.int 0]) ⟨hx, hb, hml, hown, hts⟩ (c_X12_tries l dC dI cy b _ x1 x2 x3 x4 x5) (cwV 5 hts g_L_law_X12_tries_114 rfl rfl rfl (by decide +kernel) ⟨Nat.le_of_ble_eq_true rfl, Nat.le_of_ble_eq_true rfl⟩) (pv_ps hC hPc hDc (ci := 12) (q0 := 0) rfl rfl) rfl rfl hl.1 rfl (lv_room (Nat.le_of_ble_eq_true rfl)) dL_law_850 ⟨Nat.le_of_ble_eq_true rfl, Nat.le_of_ble_eq_true rfl⟩) hS (fun q _ h => hFc q h) hFc (fun r_ u t_ H1 locs ht hvm hw hB hz1 hk1 hS => ?_)
    obtain ⟨hP, hD⟩ := va_join (wr := []) (w1 := []) hP hD [56, 57, 58, 59, 60, 61, 62, 63] [] rfl rfl (by decide) (by decide) hk1 hFc va_P0 va_D0
    generalize H1 = H at hP hS ⊢
    have hP : va_P (dC, dI) vwCl ([]) H := hP
    have hD : va_D A ([]) := hD
    rcases hw with ⟨c1817_, rfl⟩ | ⟨c1818_, c1819_, rfl⟩ | ⟨c1820_, c1821_, c1822_, c1823_, rfl⟩ | ⟨c1824_, c1825_, rfl⟩ | ⟨c1826_, c1827_, c1828_, c1829_, c1830_, rfl⟩ | ⟨c1831_, c1832_, c1833_, rfl⟩ | ⟨c1834_, c1835_, c1836_, c1837_, c1838_, c1839_, rfl⟩ | ⟨c1840_, c1841_, c1842_, c1843_, rfl⟩ | ⟨c1844_, c1845_, c1846_, c1847_, c1848_, c1849_, c1850_, rfl⟩ | ⟨c1851_, c1852_, c1853_, c1854_, c1855_, rfl⟩ | ⟨c1856_, c1857_, c1858_, c1859_, c1860_, c1861_, c1862_, c1863_, rfl⟩ | ⟨c1864_, c1865_, c1866_, c1867_, c1868_, c1869_, rfl⟩ | ⟨c1870_, c1871_, c1872_, c1873_, c1874_, c1875_, c1876_, c1877_, c1878_, rfl⟩ | ⟨c1879_, c1880_, c1881_, c1882_, c1883_, c1884_, c1885_, rfl⟩ | ⟨c1886_, c1887_, c1888_, c1889_, c1890_, c1891_, c1892_, c1893_, c1894_, c1895_, rfl⟩ | ⟨c1896_, c1897_, c1898_, c1899_, c1900_, c1901_, c1902_, c1903_, rfl⟩ | ⟨c1904_, c1905_, c1906_, c1907_, c1908_, c1909_, c1910_, c1911_, c1912_, c1913_, c1914_, rfl⟩ | ⟨c1915_, c1916_, c1917_, c1918_, c1919_, c1920_, c1921_, c1922_, c1923_, rfl⟩ | ⟨c1924_, c1925_, c1926_, c1927_, c1928_, c1929_, c1930_, c1931_, c1932_, c1933_, rfl⟩ | ⟨c1934_, c1935_, c1936_, c1937_, c1938_, c1939_, c1940_, c1941_, rfl⟩
    · skip
      exfalso
      have z0_ := tz_nlt_r c1324_ (show (0 : Int32).toInt = 0 by decide)
      have z1_ := tz_le_r c1325_ (show (4 : Int32).toInt = 4 by decide)
      have z2_ := tz_neq_r c1328_ (show (0 : Int32).toInt = 0 by decide)
      have z3_ := tz_lt_r c1817_ (show (0 : Int32).toInt = 0 by decide)
      omega
    · skip
      exfalso
      have z0_ := tz_nlt_r c1324_ (show (0 : Int32).toInt = 0 by decide)
      have z1_ := tz_le_r c1325_ (show (4 : Int32).toInt = 4 by decide)
      have z2_ := tz_neq_r c1328_ (show (0 : Int32).toInt = 0 by decide)
      have z3_ := tz_lt_l c1819_ (show (4 : Int32).toInt = 4 by decide)
      omega
    · skip
      exfalso
      have z0_ := tz_nlt_r c1326_ (show (0 : Int32).toInt = 0 by decide)
      have z1_ := tz_le_l c1327_ (show (65536 : Int32).toInt = 65536 by decide)
      have z2_ := tz_lt_r c1822_ (show (0 : Int32).toInt = 0 by decide)
      omega
    · skip
      exfalso
      have z0_ := tz_nlt_r c1326_ (show (0 : Int32).toInt = 0 by decide)
      have z1_ := tz_le_l c1327_ (show (65536 : Int32).toInt = 65536 by decide)
      have z2_ := tz_lt_r c1824_ (show (0 : Int32).toInt = 0 by decide)
      omega
    · skip
      refine lv_icmp_eq (tgt := 983) hx hb dL_law_853 (by decide) (fun _ => ?_) (fun c9_ => absurd (by decide) c9_)
      refine lv_iinc (v := 6) (lv' := [(3, .int 6), (2, .ref (b 0)), (1, .ref (a 0)), (0, .ref sc)]) hx hb dL_law_983 hl (k := 0) rfl (by decide) (by decide) rfl (fun ls hl => ?_)
      refine lv_goto (tgt := 18) hx hb dL_law_986 (by decide) ?_
      refine lv_iload_n hx hb dL_law_18 rfl (lv_at hl 0 rfl) ?_
      refine lv_aload_n hx hb dL_law_19 rfl (lv_at hl 3 rfl) ?_
      refine va_slen hx hb hX hbl hbA hS dL_law_20 ?_
      refine tk_i 6 (by decide) ?_
      refine lv_bipush (v := 6) hx hb dL_law_21 (by decide) ?_
      refine lv_isub hx hb dL_law_23 ?_
      refine tk_i 0 (by decide) ?_
      refine lv_icmp_gt (tgt := 989) hx hb dL_law_24 (by decide) (fun _ => ?_) (fun c9_ => absurd (by decide) c9_)
      refine lv_iconst (v := 1) hx hb dL_law_989 (by decide) ?_
      refine va_forget (fun q hq => by have h := hS.2.2 q hq; rw [hAe] at h; exact h) ?_
      refine W.widen (k := 600000) (n := 7302249) (Nat.le_of_ble_eq_true rfl) (Nat.le_of_ble_eq_true rfl) ?_
      exact lw_ret hx hb hr hlocks dL_law_990
    · skip
      exfalso
      have z0_ := tz_nlt_r c1324_ (show (0 : Int32).toInt = 0 by decide)
      have z1_ := tz_le_r c1325_ (show (4 : Int32).toInt = 4 by decide)
      have z2_ := tz_neq_r c1328_ (show (0 : Int32).toInt = 0 by decide)
      have z3_ := tz_eq_r c1833_ (show (0 : Int32).toInt = 0 by decide)
      omega
    · skip
      exfalso
      have z0_ := tz_nlt_r c1326_ (show (0 : Int32).toInt = 0 by decide)
      have z1_ := tz_le_l c1327_ (show (65536 : Int32).toInt = 65536 by decide)
      have z2_ := tz_nle_l c1837_ (show (65536 : Int32).toInt = 65536 by decide)
      omega
    · skip
      exfalso
      have z0_ := tz_nlt_r c1326_ (show (0 : Int32).toInt = 0 by decide)
      have z1_ := tz_le_l c1327_ (show (65536 : Int32).toInt = 65536 by decide)
      have z2_ := tz_nle_l c1841_ (show (65536 : Int32).toInt = 65536 by decide)
      omega
    · skip
      exfalso
      have z0_ := tz_nlt_r c1326_ (show (0 : Int32).toInt = 0 by decide)
      have z1_ := tz_le_l c1327_ (show (65536 : Int32).toInt = 65536 by decide)
      have z2_ := tz_nle_l c1847_ (show (65536 : Int32).toInt = 65536 by decide)
      omega
    · skip
      exfalso
      have z0_ := tz_nlt_r c1326_ (show (0 : Int32).toInt = 0 by decide)
      have z1_ := tz_le_l c1327_ (show (65536 : Int32).toInt = 65536 by decide)
      have z2_ := tz_nle_l c1852_ (show (65536 : Int32).toInt = 65536 by decide)
      omega
    · skip
      exfalso
      have z0_ := tz_nlt_r c1326_ (show (0 : Int32).toInt = 0 by decide)
      have z1_ := tz_le_l c1327_ (show (65536 : Int32).toInt = 65536 by decide)
      have z2_ := tz_nle_l c1859_ (show (65536 : Int32).toInt = 65536 by decide)
      omega
    · skip
      exfalso
      have z0_ := tz_nlt_r c1326_ (show (0 : Int32).toInt = 0 by decide)
      have z1_ := tz_le_l c1327_ (show (65536 : Int32).toInt = 65536 by decide)
      have z2_ := tz_nle_l c1865_ (show (65536 : Int32).toInt = 65536 by decide)
      omega
    · skip
      exfalso
      have z0_ := tz_nlt_r c1326_ (show (0 : Int32).toInt = 0 by decide)
      have z1_ := tz_le_l c1327_ (show (65536 : Int32).toInt = 65536 by decide)
      have z2_ := tz_nle_l c1873_ (show (65536 : Int32).toInt = 65536 by decide)
      omega
    · skip
      exfalso
      have z0_ := tz_nlt_r c1326_ (show (0 : Int32).toInt = 0 by decide)
      have z1_ := tz_le_l c1327_ (show (65536 : Int32).toInt = 65536 by decide)
      have z2_ := tz_nle_l c1880_ (show (65536 : Int32).toInt = 65536 by decide)
      omega
    · skip
      exfalso
      have z0_ := tz_nlt_r c1326_ (show (0 : Int32).toInt = 0 by decide)
      have z1_ := tz_le_l c1327_ (show (65536 : Int32).toInt = 65536 by decide)
      have z2_ := tz_nle_l c1889_ (show (65536 : Int32).toInt = 65536 by decide)
      omega
    · skip
      exfalso
      have z0_ := tz_nlt_r c1326_ (show (0 : Int32).toInt = 0 by decide)
      have z1_ := tz_le_l c1327_ (show (65536 : Int32).toInt = 65536 by decide)
      have z2_ := tz_nle_l c1897_ (show (65536 : Int32).toInt = 65536 by decide)
      omega
    · skip
      exfalso
      have z0_ := tz_nlt_r c1326_ (show (0 : Int32).toInt = 0 by decide)
      have z1_ := tz_le_l c1327_ (show (65536 : Int32).toInt = 65536 by decide)
      have z2_ := tz_nle_l c1907_ (show (65536 : Int32).toInt = 65536 by decide)
      omega
    · skip
      exfalso
      have z0_ := tz_nlt_r c1326_ (show (0 : Int32).toInt = 0 by decide)
      have z1_ := tz_le_l c1327_ (show (65536 : Int32).toInt = 65536 by decide)
      have z2_ := tz_nle_l c1916_ (show (65536 : Int32).toInt = 65536 by decide)
      omega
    · skip
      exfalso
      have z0_ := tz_nlt_r c1326_ (show (0 : Int32).toInt = 0 by decide)
      have z1_ := tz_le_l c1327_ (show (65536 : Int32).toInt = 65536 by decide)
      have z2_ := tz_nle_l c1927_ (show (65536 : Int32).toInt = 65536 by decide)
      omega
    · skip
      exfalso
      have z0_ := tz_nlt_r c1326_ (show (0 : Int32).toInt = 0 by decide)
      have z1_ := tz_le_l c1327_ (show (65536 : Int32).toInt = 65536 by decide)
      have z2_ := tz_nle_l c1935_ (show (65536 : Int32).toInt = 65536 by decide)
      omega
  · skip
    subst c1331_
    refine lv_aload_n hx hb dL_law_824 rfl (lv_at hl 1 rfl) ?_
    refine lv_aload_n hx hb dL_law_825 rfl (lv_at hl 3 rfl) ?_
    refine lv_iload_n hx hb dL_law_826 rfl (lv_at hl 0 rfl) ?_
    refine lv_iconst (v := 1) hx hb dL_law_827 (by decide) ?_
    refine lv_iadd hx hb dL_law_828 ?_
    refine tk_i 1 (by decide) ?_
    refine va_sld hx hb hX hbl hbA hS (show ¬ ((1 : Int32) < 0 ∨ 6 ≤ Int32.toNatClampNeg 1) by decide) dL_law_829 ?_
    refine tk_i x1 ex1 ?_
    refine lv_aload_n hx hb dL_law_830 rfl (lv_at hl 3 rfl) ?_
    refine lv_iload_n hx hb dL_law_831 rfl (lv_at hl 0 rfl) ?_
    refine lv_iconst (v := 2) hx hb dL_law_832 (by decide) ?_
    refine lv_iadd hx hb dL_law_833 ?_
    refine tk_i 2 (by decide) ?_
    refine va_sld hx hb hX hbl hbA hS (show ¬ ((2 : Int32) < 0 ∨ 6 ≤ Int32.toNatClampNeg 2) by decide) dL_law_834 ?_
    refine tk_i x2 ex2 ?_
    refine lv_aload_n hx hb dL_law_835 rfl (lv_at hl 3 rfl) ?_
    refine lv_iload_n hx hb dL_law_836 rfl (lv_at hl 0 rfl) ?_
    refine lv_iconst (v := 3) hx hb dL_law_837 (by decide) ?_
    refine lv_iadd hx hb dL_law_838 ?_
    refine tk_i 3 (by decide) ?_
    refine va_sld hx hb hX hbl hbA hS (show ¬ ((3 : Int32) < 0 ∨ 6 ≤ Int32.toNatClampNeg 3) by decide) dL_law_839 ?_
    refine tk_i x3 ex3 ?_
    refine lv_aload_n hx hb dL_law_840 rfl (lv_at hl 3 rfl) ?_
    refine lv_iload_n hx hb dL_law_841 rfl (lv_at hl 0 rfl) ?_
    refine lv_iconst (v := 4) hx hb dL_law_842 (by decide) ?_
    refine lv_iadd hx hb dL_law_843 ?_
    refine tk_i 4 (by decide) ?_
    refine va_sld hx hb hX hbl hbA hS (show ¬ ((4 : Int32) < 0 ∨ 6 ≤ Int32.toNatClampNeg 4) by decide) dL_law_844 ?_
    refine tk_i x4 ex4 ?_
    refine lv_aload_n hx hb dL_law_845 rfl (lv_at hl 3 rfl) ?_
    refine lv_iload_n hx hb dL_law_846 rfl (lv_at hl 0 rfl) ?_
    refine lv_iconst (v := 5) hx hb dL_law_847 (by decide) ?_
    refine lv_iadd hx hb dL_law_848 ?_
    refine tk_i 5 (by decide) ?_
    refine va_sld hx hb hX hbl hbA hS (show ¬ ((5 : Int32) < 0 ∨ 6 ≤ Int32.toNatClampNeg 5) by decide) dL_law_849 ?_
    refine tk_i 0 ex5 ?_
    have hPc : va_P (dC, dI) vwCl (mw b cy) _ := hP.sub [56, 57, 58, 59, 60, 61, 62, 63] rfl
    have hDc := hD.sub (ws' := mw b cy) [56, 57, 58, 59, 60, 61, 62, 63] (by decide) rfl
    have hFc := va_free (wc := mw b cy) hD hS hA [56, 57, 58, 59, 60, 61, 62, 63] rfl
    refine va_calli (va_runV (As := [.int x1, .int x2, .int x3, .int x4, .int 0]) (rest := [.int (-1)]) ⟨hx, hb, hml, hown, hts⟩ (c_X12_tries l dC dI cy b _ x1 x2 x3 x4 0) (cwV 5 hts g_L_law_X12_tries_114 rfl rfl rfl (by decide +kernel) ⟨Nat.le_of_ble_eq_true rfl, Nat.le_of_ble_eq_true rfl⟩) (pv_ps hC hPc hDc (ci := 12) (q0 := 0) rfl rfl) rfl rfl hl.1 rfl (lv_room (Nat.le_of_ble_eq_true rfl)) dL_law_850 ⟨Nat.le_of_ble_eq_true rfl, Nat.le_of_ble_eq_true rfl⟩) hS (fun q _ h => hFc q h) hFc (fun r_ u t_ H1 locs ht hvm hw hB hz1 hk1 hS => ?_)
    obtain ⟨hP, hD⟩ := va_join (wr := []) (w1 := []) hP hD [56, 57, 58, 59, 60, 61, 62, 63] [] rfl rfl (by decide) (by decide) hk1 hFc va_P0 va_D0
    generalize H1 = H at hP hS ⊢
    have hP : va_P (dC, dI) vwCl ([]) H := hP
    have hD : va_D A ([]) := hD
    rcases hw with ⟨c1942_, rfl⟩ | ⟨-, c1944_, rfl⟩ | ⟨-, -, c1947_, c1948_, rfl⟩ | ⟨c1949_, -, rfl⟩ | ⟨-, -, c1953_, c1954_, c1955_, rfl⟩ | ⟨c1956_, c1957_, -, rfl⟩ | ⟨-, -, c1961_, c1962_, c1963_, c1964_, rfl⟩ | ⟨c1965_, c1966_, c1967_, -, rfl⟩ | ⟨-, -, c1971_, c1972_, c1973_, c1974_, c1975_, rfl⟩ | ⟨c1976_, c1977_, c1978_, c1979_, -, rfl⟩ | ⟨-, -, c1983_, c1984_, c1985_, c1986_, c1987_, c1988_, rfl⟩ | ⟨c1989_, c1990_, c1991_, c1992_, c1993_, -, rfl⟩ | ⟨-, -, c1997_, c1998_, c1999_, c2000_, c2001_, c2002_, c2003_, rfl⟩ | ⟨c2004_, c2005_, c2006_, c2007_, c2008_, c2009_, -, rfl⟩ | ⟨-, -, c2013_, c2014_, c2015_, c2016_, c2017_, c2018_, c2019_, c2020_, rfl⟩ | ⟨c2021_, c2022_, c2023_, c2024_, c2025_, c2026_, c2027_, -, rfl⟩ | ⟨-, -, c2031_, c2032_, c2033_, c2034_, c2035_, c2036_, c2037_, c2038_, c2039_, rfl⟩ | ⟨c2040_, c2041_, c2042_, c2043_, c2044_, c2045_, c2046_, c2047_, -, rfl⟩ | ⟨-, -, c2051_, c2052_, c2053_, c2054_, c2055_, c2056_, c2057_, c2058_, rfl⟩ | ⟨c2059_, c2060_, c2061_, c2062_, c2063_, c2064_, c2065_, -, rfl⟩
    · skip
      exact absurd c1942_ (by decide)
    · skip
      exact absurd c1944_ (by decide)
    · skip
      exact absurd c1948_ (by decide)
    · skip
      exfalso
      have z0_ := tz_nlt_r c1329_ (show (0 : Int32).toInt = 0 by decide)
      have z1_ := tz_le_l c1330_ (show (65536 : Int32).toInt = 65536 by decide)
      have z2_ := tz_lt_r c1949_ (show (0 : Int32).toInt = 0 by decide)
      omega
    · skip
      exact absurd c1955_ (by decide)
    · skip
      refine lv_icmp_eq (tgt := 983) hx hb dL_law_853 (by decide) (fun _ => ?_) (fun c9_ => absurd (by decide) c9_)
      refine lv_iinc (v := 6) (lv' := [(3, .int 6), (2, .ref (b 0)), (1, .ref (a 0)), (0, .ref sc)]) hx hb dL_law_983 hl (k := 0) rfl (by decide) (by decide) rfl (fun ls hl => ?_)
      refine lv_goto (tgt := 18) hx hb dL_law_986 (by decide) ?_
      refine lv_iload_n hx hb dL_law_18 rfl (lv_at hl 0 rfl) ?_
      refine lv_aload_n hx hb dL_law_19 rfl (lv_at hl 3 rfl) ?_
      refine va_slen hx hb hX hbl hbA hS dL_law_20 ?_
      refine tk_i 6 (by decide) ?_
      refine lv_bipush (v := 6) hx hb dL_law_21 (by decide) ?_
      refine lv_isub hx hb dL_law_23 ?_
      refine tk_i 0 (by decide) ?_
      refine lv_icmp_gt (tgt := 989) hx hb dL_law_24 (by decide) (fun _ => ?_) (fun c9_ => absurd (by decide) c9_)
      refine lv_iconst (v := 1) hx hb dL_law_989 (by decide) ?_
      refine va_forget (fun q hq => by have h := hS.2.2 q hq; rw [hAe] at h; exact h) ?_
      refine W.widen (k := 600000) (n := 7302249) (Nat.le_of_ble_eq_true rfl) (Nat.le_of_ble_eq_true rfl) ?_
      exact lw_ret hx hb hr hlocks dL_law_990
    · skip
      exact absurd c1964_ (by decide)
    · skip
      exfalso
      have z0_ := tz_nlt_r c1329_ (show (0 : Int32).toInt = 0 by decide)
      have z1_ := tz_le_l c1330_ (show (65536 : Int32).toInt = 65536 by decide)
      have z2_ := tz_nle_l c1966_ (show (65536 : Int32).toInt = 65536 by decide)
      omega
    · skip
      exact absurd c1975_ (by decide)
    · skip
      exfalso
      have z0_ := tz_nlt_r c1329_ (show (0 : Int32).toInt = 0 by decide)
      have z1_ := tz_le_l c1330_ (show (65536 : Int32).toInt = 65536 by decide)
      have z2_ := tz_nle_l c1977_ (show (65536 : Int32).toInt = 65536 by decide)
      omega
    · skip
      exact absurd c1988_ (by decide)
    · skip
      exfalso
      have z0_ := tz_nlt_r c1329_ (show (0 : Int32).toInt = 0 by decide)
      have z1_ := tz_le_l c1330_ (show (65536 : Int32).toInt = 65536 by decide)
      have z2_ := tz_nle_l c1990_ (show (65536 : Int32).toInt = 65536 by decide)
      omega
    · skip
      exact absurd c2003_ (by decide)
    · skip
      exfalso
      have z0_ := tz_nlt_r c1329_ (show (0 : Int32).toInt = 0 by decide)
      have z1_ := tz_le_l c1330_ (show (65536 : Int32).toInt = 65536 by decide)
      have z2_ := tz_nle_l c2005_ (show (65536 : Int32).toInt = 65536 by decide)
      omega
    · skip
      exact absurd c2020_ (by decide)
    · skip
      exfalso
      have z0_ := tz_nlt_r c1329_ (show (0 : Int32).toInt = 0 by decide)
      have z1_ := tz_le_l c1330_ (show (65536 : Int32).toInt = 65536 by decide)
      have z2_ := tz_nle_l c2022_ (show (65536 : Int32).toInt = 65536 by decide)
      omega
    · skip
      exact absurd c2039_ (by decide)
    · skip
      exfalso
      have z0_ := tz_nlt_r c1329_ (show (0 : Int32).toInt = 0 by decide)
      have z1_ := tz_le_l c1330_ (show (65536 : Int32).toInt = 65536 by decide)
      have z2_ := tz_nle_l c2041_ (show (65536 : Int32).toInt = 65536 by decide)
      omega
    · skip
      exact absurd c2058_ (by decide)
    · skip
      exfalso
      have z0_ := tz_nlt_r c1329_ (show (0 : Int32).toInt = 0 by decide)
      have z1_ := tz_le_l c1330_ (show (65536 : Int32).toInt = 65536 by decide)
      have z2_ := tz_nle_l c2060_ (show (65536 : Int32).toInt = 65536 by decide)
      omega
  · skip
    refine lv_aload_n hx hb dL_law_824 rfl (lv_at hl 1 rfl) ?_
    refine lv_aload_n hx hb dL_law_825 rfl (lv_at hl 3 rfl) ?_
    refine lv_iload_n hx hb dL_law_826 rfl (lv_at hl 0 rfl) ?_
    refine lv_iconst (v := 1) hx hb dL_law_827 (by decide) ?_
    refine lv_iadd hx hb dL_law_828 ?_
    refine tk_i 1 (by decide) ?_
    refine va_sld hx hb hX hbl hbA hS (show ¬ ((1 : Int32) < 0 ∨ 6 ≤ Int32.toNatClampNeg 1) by decide) dL_law_829 ?_
    refine tk_i x1 ex1 ?_
    refine lv_aload_n hx hb dL_law_830 rfl (lv_at hl 3 rfl) ?_
    refine lv_iload_n hx hb dL_law_831 rfl (lv_at hl 0 rfl) ?_
    refine lv_iconst (v := 2) hx hb dL_law_832 (by decide) ?_
    refine lv_iadd hx hb dL_law_833 ?_
    refine tk_i 2 (by decide) ?_
    refine va_sld hx hb hX hbl hbA hS (show ¬ ((2 : Int32) < 0 ∨ 6 ≤ Int32.toNatClampNeg 2) by decide) dL_law_834 ?_
    refine tk_i x2 ex2 ?_
    refine lv_aload_n hx hb dL_law_835 rfl (lv_at hl 3 rfl) ?_
    refine lv_iload_n hx hb dL_law_836 rfl (lv_at hl 0 rfl) ?_
    refine lv_iconst (v := 3) hx hb dL_law_837 (by decide) ?_
    refine lv_iadd hx hb dL_law_838 ?_
    refine tk_i 3 (by decide) ?_
    refine va_sld hx hb hX hbl hbA hS (show ¬ ((3 : Int32) < 0 ∨ 6 ≤ Int32.toNatClampNeg 3) by decide) dL_law_839 ?_
    refine tk_i x3 ex3 ?_
    refine lv_aload_n hx hb dL_law_840 rfl (lv_at hl 3 rfl) ?_
    refine lv_iload_n hx hb dL_law_841 rfl (lv_at hl 0 rfl) ?_
    refine lv_iconst (v := 4) hx hb dL_law_842 (by decide) ?_
    refine lv_iadd hx hb dL_law_843 ?_
    refine tk_i 4 (by decide) ?_
    refine va_sld hx hb hX hbl hbA hS (show ¬ ((4 : Int32) < 0 ∨ 6 ≤ Int32.toNatClampNeg 4) by decide) dL_law_844 ?_
    refine tk_i x4 ex4 ?_
    refine lv_aload_n hx hb dL_law_845 rfl (lv_at hl 3 rfl) ?_
    refine lv_iload_n hx hb dL_law_846 rfl (lv_at hl 0 rfl) ?_
    refine lv_iconst (v := 5) hx hb dL_law_847 (by decide) ?_
    refine lv_iadd hx hb dL_law_848 ?_
    refine tk_i 5 (by decide) ?_
    refine va_sld hx hb hX hbl hbA hS (show ¬ ((5 : Int32) < 0 ∨ 6 ≤ Int32.toNatClampNeg 5) by decide) dL_law_849 ?_
    refine tk_i x5 ex5 ?_
    have hPc : va_P (dC, dI) vwCl (mw b cy) _ := hP.sub [56, 57, 58, 59, 60, 61, 62, 63] rfl
    have hDc := hD.sub (ws' := mw b cy) [56, 57, 58, 59, 60, 61, 62, 63] (by decide) rfl
    have hFc := va_free (wc := mw b cy) hD hS hA [56, 57, 58, 59, 60, 61, 62, 63] rfl
    refine va_calli (va_runV (As := [.int x1, .int x2, .int x3, .int x4, .int x5]) (rest := [.int 0]) ⟨hx, hb, hml, hown, hts⟩ (c_X12_tries l dC dI cy b _ x1 x2 x3 x4 x5) (cwV 5 hts g_L_law_X12_tries_114 rfl rfl rfl (by decide +kernel) ⟨Nat.le_of_ble_eq_true rfl, Nat.le_of_ble_eq_true rfl⟩) (pv_ps hC hPc hDc (ci := 12) (q0 := 0) rfl rfl) rfl rfl hl.1 rfl (lv_room (Nat.le_of_ble_eq_true rfl)) dL_law_850 ⟨Nat.le_of_ble_eq_true rfl, Nat.le_of_ble_eq_true rfl⟩) hS (fun q _ h => hFc q h) hFc (fun r_ u t_ H1 locs ht hvm hw hB hz1 hk1 hS => ?_)
    obtain ⟨hP, hD⟩ := va_join (wr := []) (w1 := []) hP hD [56, 57, 58, 59, 60, 61, 62, 63] [] rfl rfl (by decide) (by decide) hk1 hFc va_P0 va_D0
    generalize H1 = H at hP hS ⊢
    have hP : va_P (dC, dI) vwCl ([]) H := hP
    have hD : va_D A ([]) := hD
    rcases hw with ⟨c2067_, rfl⟩ | ⟨c2068_, c2069_, rfl⟩ | ⟨c2070_, c2071_, c2072_, c2073_, rfl⟩ | ⟨c2074_, c2075_, rfl⟩ | ⟨c2076_, c2077_, c2078_, c2079_, c2080_, rfl⟩ | ⟨c2081_, c2082_, c2083_, rfl⟩ | ⟨c2084_, c2085_, c2086_, c2087_, c2088_, c2089_, rfl⟩ | ⟨c2090_, c2091_, c2092_, c2093_, rfl⟩ | ⟨c2094_, c2095_, c2096_, c2097_, c2098_, c2099_, c2100_, rfl⟩ | ⟨c2101_, c2102_, c2103_, c2104_, c2105_, rfl⟩ | ⟨c2106_, c2107_, c2108_, c2109_, c2110_, c2111_, c2112_, c2113_, rfl⟩ | ⟨c2114_, c2115_, c2116_, c2117_, c2118_, c2119_, rfl⟩ | ⟨c2120_, c2121_, c2122_, c2123_, c2124_, c2125_, c2126_, c2127_, c2128_, rfl⟩ | ⟨c2129_, c2130_, c2131_, c2132_, c2133_, c2134_, c2135_, rfl⟩ | ⟨c2136_, c2137_, c2138_, c2139_, c2140_, c2141_, c2142_, c2143_, c2144_, c2145_, rfl⟩ | ⟨c2146_, c2147_, c2148_, c2149_, c2150_, c2151_, c2152_, c2153_, rfl⟩ | ⟨c2154_, c2155_, c2156_, c2157_, c2158_, c2159_, c2160_, c2161_, c2162_, c2163_, c2164_, rfl⟩ | ⟨c2165_, c2166_, c2167_, c2168_, c2169_, c2170_, c2171_, c2172_, c2173_, rfl⟩ | ⟨c2174_, c2175_, c2176_, c2177_, c2178_, c2179_, c2180_, c2181_, c2182_, c2183_, rfl⟩ | ⟨c2184_, c2185_, c2186_, c2187_, c2188_, c2189_, c2190_, c2191_, rfl⟩
    · skip
      exfalso
      have z0_ := tz_nlt_r c1332_ (show (0 : Int32).toInt = 0 by decide)
      have z1_ := tz_le_r c1333_ (show (4 : Int32).toInt = 4 by decide)
      have z2_ := tz_neq_r c1337_ (show (0 : Int32).toInt = 0 by decide)
      have z3_ := tz_lt_r c2067_ (show (0 : Int32).toInt = 0 by decide)
      omega
    · skip
      exfalso
      have z0_ := tz_nlt_r c1332_ (show (0 : Int32).toInt = 0 by decide)
      have z1_ := tz_le_r c1333_ (show (4 : Int32).toInt = 4 by decide)
      have z2_ := tz_neq_r c1337_ (show (0 : Int32).toInt = 0 by decide)
      have z3_ := tz_lt_l c2069_ (show (4 : Int32).toInt = 4 by decide)
      omega
    · skip
      exfalso
      have z0_ := tz_nlt_r c1334_ (show (0 : Int32).toInt = 0 by decide)
      have z1_ := tz_nle_l c1335_ (show (65536 : Int32).toInt = 65536 by decide)
      have z2_ := tz_lt_r c2072_ (show (0 : Int32).toInt = 0 by decide)
      omega
    · skip
      exfalso
      have z0_ := tz_nlt_r c1334_ (show (0 : Int32).toInt = 0 by decide)
      have z1_ := tz_nle_l c1335_ (show (65536 : Int32).toInt = 65536 by decide)
      have z2_ := tz_lt_r c2074_ (show (0 : Int32).toInt = 0 by decide)
      omega
    · skip
      exfalso
      have z0_ := tz_nlt_r c1334_ (show (0 : Int32).toInt = 0 by decide)
      have z1_ := tz_nle_l c1335_ (show (65536 : Int32).toInt = 65536 by decide)
      have z2_ := tz_le_l c2079_ (show (65536 : Int32).toInt = 65536 by decide)
      omega
    · skip
      exfalso
      have z0_ := tz_nlt_r c1334_ (show (0 : Int32).toInt = 0 by decide)
      have z1_ := tz_nle_l c1335_ (show (65536 : Int32).toInt = 65536 by decide)
      have z2_ := tz_le_l c2082_ (show (65536 : Int32).toInt = 65536 by decide)
      omega
    · skip
      refine lv_icmp_eq (tgt := 983) hx hb dL_law_853 (by decide) (fun _ => ?_) (fun c9_ => absurd (by decide) c9_)
      refine lv_iinc (v := 6) (lv' := [(3, .int 6), (2, .ref (b 0)), (1, .ref (a 0)), (0, .ref sc)]) hx hb dL_law_983 hl (k := 0) rfl (by decide) (by decide) rfl (fun ls hl => ?_)
      refine lv_goto (tgt := 18) hx hb dL_law_986 (by decide) ?_
      refine lv_iload_n hx hb dL_law_18 rfl (lv_at hl 0 rfl) ?_
      refine lv_aload_n hx hb dL_law_19 rfl (lv_at hl 3 rfl) ?_
      refine va_slen hx hb hX hbl hbA hS dL_law_20 ?_
      refine tk_i 6 (by decide) ?_
      refine lv_bipush (v := 6) hx hb dL_law_21 (by decide) ?_
      refine lv_isub hx hb dL_law_23 ?_
      refine tk_i 0 (by decide) ?_
      refine lv_icmp_gt (tgt := 989) hx hb dL_law_24 (by decide) (fun _ => ?_) (fun c9_ => absurd (by decide) c9_)
      refine lv_iconst (v := 1) hx hb dL_law_989 (by decide) ?_
      refine va_forget (fun q hq => by have h := hS.2.2 q hq; rw [hAe] at h; exact h) ?_
      refine W.widen (k := 600000) (n := 7302249) (Nat.le_of_ble_eq_true rfl) (Nat.le_of_ble_eq_true rfl) ?_
      exact lw_ret hx hb hr hlocks dL_law_990
    · skip
      exfalso
      have z0_ := tz_nlt_r c1332_ (show (0 : Int32).toInt = 0 by decide)
      have z1_ := tz_le_r c1333_ (show (4 : Int32).toInt = 4 by decide)
      have z2_ := tz_neq_r c1337_ (show (0 : Int32).toInt = 0 by decide)
      have z3_ := tz_eq_r c2093_ (show (0 : Int32).toInt = 0 by decide)
      omega
    · skip
      exfalso
      have z0_ := tz_lt_r c1336_ (show (0 : Int32).toInt = 0 by decide)
      have z1_ := tz_nlt_r c2098_ (show (0 : Int32).toInt = 0 by decide)
      omega
    · skip
      exfalso
      have z0_ := tz_lt_r c1336_ (show (0 : Int32).toInt = 0 by decide)
      have z1_ := tz_nlt_r c2103_ (show (0 : Int32).toInt = 0 by decide)
      omega
    · skip
      exfalso
      have z0_ := tz_lt_r c1336_ (show (0 : Int32).toInt = 0 by decide)
      have z1_ := tz_nlt_r c2110_ (show (0 : Int32).toInt = 0 by decide)
      omega
    · skip
      exfalso
      have z0_ := tz_lt_r c1336_ (show (0 : Int32).toInt = 0 by decide)
      have z1_ := tz_nlt_r c2116_ (show (0 : Int32).toInt = 0 by decide)
      omega
    · skip
      exfalso
      have z0_ := tz_lt_r c1336_ (show (0 : Int32).toInt = 0 by decide)
      have z1_ := tz_nlt_r c2124_ (show (0 : Int32).toInt = 0 by decide)
      omega
    · skip
      exfalso
      have z0_ := tz_lt_r c1336_ (show (0 : Int32).toInt = 0 by decide)
      have z1_ := tz_nlt_r c2131_ (show (0 : Int32).toInt = 0 by decide)
      omega
    · skip
      exfalso
      have z0_ := tz_lt_r c1336_ (show (0 : Int32).toInt = 0 by decide)
      have z1_ := tz_nlt_r c2140_ (show (0 : Int32).toInt = 0 by decide)
      omega
    · skip
      exfalso
      have z0_ := tz_lt_r c1336_ (show (0 : Int32).toInt = 0 by decide)
      have z1_ := tz_nlt_r c2148_ (show (0 : Int32).toInt = 0 by decide)
      omega
    · skip
      exfalso
      have z0_ := tz_lt_r c1336_ (show (0 : Int32).toInt = 0 by decide)
      have z1_ := tz_nlt_r c2158_ (show (0 : Int32).toInt = 0 by decide)
      omega
    · skip
      exfalso
      have z0_ := tz_lt_r c1336_ (show (0 : Int32).toInt = 0 by decide)
      have z1_ := tz_nlt_r c2167_ (show (0 : Int32).toInt = 0 by decide)
      omega
    · skip
      exfalso
      have z0_ := tz_lt_r c1336_ (show (0 : Int32).toInt = 0 by decide)
      have z1_ := tz_nlt_r c2178_ (show (0 : Int32).toInt = 0 by decide)
      omega
    · skip
      exfalso
      have z0_ := tz_lt_r c1336_ (show (0 : Int32).toInt = 0 by decide)
      have z1_ := tz_nlt_r c2186_ (show (0 : Int32).toInt = 0 by decide)
      omega
  · skip
    subst c1341_
    refine lv_aload_n hx hb dL_law_824 rfl (lv_at hl 1 rfl) ?_
    refine lv_aload_n hx hb dL_law_825 rfl (lv_at hl 3 rfl) ?_
    refine lv_iload_n hx hb dL_law_826 rfl (lv_at hl 0 rfl) ?_
    refine lv_iconst (v := 1) hx hb dL_law_827 (by decide) ?_
    refine lv_iadd hx hb dL_law_828 ?_
    refine tk_i 1 (by decide) ?_
    refine va_sld hx hb hX hbl hbA hS (show ¬ ((1 : Int32) < 0 ∨ 6 ≤ Int32.toNatClampNeg 1) by decide) dL_law_829 ?_
    refine tk_i x1 ex1 ?_
    refine lv_aload_n hx hb dL_law_830 rfl (lv_at hl 3 rfl) ?_
    refine lv_iload_n hx hb dL_law_831 rfl (lv_at hl 0 rfl) ?_
    refine lv_iconst (v := 2) hx hb dL_law_832 (by decide) ?_
    refine lv_iadd hx hb dL_law_833 ?_
    refine tk_i 2 (by decide) ?_
    refine va_sld hx hb hX hbl hbA hS (show ¬ ((2 : Int32) < 0 ∨ 6 ≤ Int32.toNatClampNeg 2) by decide) dL_law_834 ?_
    refine tk_i x2 ex2 ?_
    refine lv_aload_n hx hb dL_law_835 rfl (lv_at hl 3 rfl) ?_
    refine lv_iload_n hx hb dL_law_836 rfl (lv_at hl 0 rfl) ?_
    refine lv_iconst (v := 3) hx hb dL_law_837 (by decide) ?_
    refine lv_iadd hx hb dL_law_838 ?_
    refine tk_i 3 (by decide) ?_
    refine va_sld hx hb hX hbl hbA hS (show ¬ ((3 : Int32) < 0 ∨ 6 ≤ Int32.toNatClampNeg 3) by decide) dL_law_839 ?_
    refine tk_i x3 ex3 ?_
    refine lv_aload_n hx hb dL_law_840 rfl (lv_at hl 3 rfl) ?_
    refine lv_iload_n hx hb dL_law_841 rfl (lv_at hl 0 rfl) ?_
    refine lv_iconst (v := 4) hx hb dL_law_842 (by decide) ?_
    refine lv_iadd hx hb dL_law_843 ?_
    refine tk_i 4 (by decide) ?_
    refine va_sld hx hb hX hbl hbA hS (show ¬ ((4 : Int32) < 0 ∨ 6 ≤ Int32.toNatClampNeg 4) by decide) dL_law_844 ?_
    refine tk_i x4 ex4 ?_
    refine lv_aload_n hx hb dL_law_845 rfl (lv_at hl 3 rfl) ?_
    refine lv_iload_n hx hb dL_law_846 rfl (lv_at hl 0 rfl) ?_
    refine lv_iconst (v := 5) hx hb dL_law_847 (by decide) ?_
    refine lv_iadd hx hb dL_law_848 ?_
    refine tk_i 5 (by decide) ?_
    refine va_sld hx hb hX hbl hbA hS (show ¬ ((5 : Int32) < 0 ∨ 6 ≤ Int32.toNatClampNeg 5) by decide) dL_law_849 ?_
    refine tk_i 0 ex5 ?_
    have hPc : va_P (dC, dI) vwCl (mw b cy) _ := hP.sub [56, 57, 58, 59, 60, 61, 62, 63] rfl
    have hDc := hD.sub (ws' := mw b cy) [56, 57, 58, 59, 60, 61, 62, 63] (by decide) rfl
    have hFc := va_free (wc := mw b cy) hD hS hA [56, 57, 58, 59, 60, 61, 62, 63] rfl
    refine va_calli (va_runV (As := [.int x1, .int x2, .int x3, .int x4, .int 0]) (rest := [.int (-1)]) ⟨hx, hb, hml, hown, hts⟩ (c_X12_tries l dC dI cy b _ x1 x2 x3 x4 0) (cwV 5 hts g_L_law_X12_tries_114 rfl rfl rfl (by decide +kernel) ⟨Nat.le_of_ble_eq_true rfl, Nat.le_of_ble_eq_true rfl⟩) (pv_ps hC hPc hDc (ci := 12) (q0 := 0) rfl rfl) rfl rfl hl.1 rfl (lv_room (Nat.le_of_ble_eq_true rfl)) dL_law_850 ⟨Nat.le_of_ble_eq_true rfl, Nat.le_of_ble_eq_true rfl⟩) hS (fun q _ h => hFc q h) hFc (fun r_ u t_ H1 locs ht hvm hw hB hz1 hk1 hS => ?_)
    obtain ⟨hP, hD⟩ := va_join (wr := []) (w1 := []) hP hD [56, 57, 58, 59, 60, 61, 62, 63] [] rfl rfl (by decide) (by decide) hk1 hFc va_P0 va_D0
    generalize H1 = H at hP hS ⊢
    have hP : va_P (dC, dI) vwCl ([]) H := hP
    have hD : va_D A ([]) := hD
    rcases hw with ⟨c2192_, rfl⟩ | ⟨-, c2194_, rfl⟩ | ⟨-, -, c2197_, c2198_, rfl⟩ | ⟨c2199_, -, rfl⟩ | ⟨-, -, c2203_, c2204_, c2205_, rfl⟩ | ⟨c2206_, c2207_, -, rfl⟩ | ⟨-, -, c2211_, c2212_, c2213_, c2214_, rfl⟩ | ⟨c2215_, c2216_, c2217_, -, rfl⟩ | ⟨-, -, c2221_, c2222_, c2223_, c2224_, c2225_, rfl⟩ | ⟨c2226_, c2227_, c2228_, c2229_, -, rfl⟩ | ⟨-, -, c2233_, c2234_, c2235_, c2236_, c2237_, c2238_, rfl⟩ | ⟨c2239_, c2240_, c2241_, c2242_, c2243_, -, rfl⟩ | ⟨-, -, c2247_, c2248_, c2249_, c2250_, c2251_, c2252_, c2253_, rfl⟩ | ⟨c2254_, c2255_, c2256_, c2257_, c2258_, c2259_, -, rfl⟩ | ⟨-, -, c2263_, c2264_, c2265_, c2266_, c2267_, c2268_, c2269_, c2270_, rfl⟩ | ⟨c2271_, c2272_, c2273_, c2274_, c2275_, c2276_, c2277_, -, rfl⟩ | ⟨-, -, c2281_, c2282_, c2283_, c2284_, c2285_, c2286_, c2287_, c2288_, c2289_, rfl⟩ | ⟨c2290_, c2291_, c2292_, c2293_, c2294_, c2295_, c2296_, c2297_, -, rfl⟩ | ⟨-, -, c2301_, c2302_, c2303_, c2304_, c2305_, c2306_, c2307_, c2308_, rfl⟩ | ⟨c2309_, c2310_, c2311_, c2312_, c2313_, c2314_, c2315_, -, rfl⟩
    · skip
      exact absurd c2192_ (by decide)
    · skip
      exact absurd c2194_ (by decide)
    · skip
      exact absurd c2198_ (by decide)
    · skip
      exfalso
      have z0_ := tz_nlt_r c1338_ (show (0 : Int32).toInt = 0 by decide)
      have z1_ := tz_nle_l c1339_ (show (65536 : Int32).toInt = 65536 by decide)
      have z2_ := tz_lt_r c2199_ (show (0 : Int32).toInt = 0 by decide)
      omega
    · skip
      exact absurd c2205_ (by decide)
    · skip
      exfalso
      have z0_ := tz_nlt_r c1338_ (show (0 : Int32).toInt = 0 by decide)
      have z1_ := tz_nle_l c1339_ (show (65536 : Int32).toInt = 65536 by decide)
      have z2_ := tz_le_l c2207_ (show (65536 : Int32).toInt = 65536 by decide)
      omega
    · skip
      exact absurd c2214_ (by decide)
    · skip
      refine lv_icmp_eq (tgt := 983) hx hb dL_law_853 (by decide) (fun _ => ?_) (fun c9_ => absurd (by decide) c9_)
      refine lv_iinc (v := 6) (lv' := [(3, .int 6), (2, .ref (b 0)), (1, .ref (a 0)), (0, .ref sc)]) hx hb dL_law_983 hl (k := 0) rfl (by decide) (by decide) rfl (fun ls hl => ?_)
      refine lv_goto (tgt := 18) hx hb dL_law_986 (by decide) ?_
      refine lv_iload_n hx hb dL_law_18 rfl (lv_at hl 0 rfl) ?_
      refine lv_aload_n hx hb dL_law_19 rfl (lv_at hl 3 rfl) ?_
      refine va_slen hx hb hX hbl hbA hS dL_law_20 ?_
      refine tk_i 6 (by decide) ?_
      refine lv_bipush (v := 6) hx hb dL_law_21 (by decide) ?_
      refine lv_isub hx hb dL_law_23 ?_
      refine tk_i 0 (by decide) ?_
      refine lv_icmp_gt (tgt := 989) hx hb dL_law_24 (by decide) (fun _ => ?_) (fun c9_ => absurd (by decide) c9_)
      refine lv_iconst (v := 1) hx hb dL_law_989 (by decide) ?_
      refine va_forget (fun q hq => by have h := hS.2.2 q hq; rw [hAe] at h; exact h) ?_
      refine W.widen (k := 600000) (n := 7302249) (Nat.le_of_ble_eq_true rfl) (Nat.le_of_ble_eq_true rfl) ?_
      exact lw_ret hx hb hr hlocks dL_law_990
    · skip
      exact absurd c2225_ (by decide)
    · skip
      exfalso
      have z0_ := tz_lt_r c1340_ (show (0 : Int32).toInt = 0 by decide)
      have z1_ := tz_nlt_r c2228_ (show (0 : Int32).toInt = 0 by decide)
      omega
    · skip
      exact absurd c2238_ (by decide)
    · skip
      exfalso
      have z0_ := tz_lt_r c1340_ (show (0 : Int32).toInt = 0 by decide)
      have z1_ := tz_nlt_r c2241_ (show (0 : Int32).toInt = 0 by decide)
      omega
    · skip
      exact absurd c2253_ (by decide)
    · skip
      exfalso
      have z0_ := tz_lt_r c1340_ (show (0 : Int32).toInt = 0 by decide)
      have z1_ := tz_nlt_r c2256_ (show (0 : Int32).toInt = 0 by decide)
      omega
    · skip
      exact absurd c2270_ (by decide)
    · skip
      exfalso
      have z0_ := tz_lt_r c1340_ (show (0 : Int32).toInt = 0 by decide)
      have z1_ := tz_nlt_r c2273_ (show (0 : Int32).toInt = 0 by decide)
      omega
    · skip
      exact absurd c2289_ (by decide)
    · skip
      exfalso
      have z0_ := tz_lt_r c1340_ (show (0 : Int32).toInt = 0 by decide)
      have z1_ := tz_nlt_r c2292_ (show (0 : Int32).toInt = 0 by decide)
      omega
    · skip
      exact absurd c2308_ (by decide)
    · skip
      exfalso
      have z0_ := tz_lt_r c1340_ (show (0 : Int32).toInt = 0 by decide)
      have z1_ := tz_nlt_r c2311_ (show (0 : Int32).toInt = 0 by decide)
      omega
  · skip
    refine lv_aload_n hx hb dL_law_824 rfl (lv_at hl 1 rfl) ?_
    refine lv_aload_n hx hb dL_law_825 rfl (lv_at hl 3 rfl) ?_
    refine lv_iload_n hx hb dL_law_826 rfl (lv_at hl 0 rfl) ?_
    refine lv_iconst (v := 1) hx hb dL_law_827 (by decide) ?_
    refine lv_iadd hx hb dL_law_828 ?_
    refine tk_i 1 (by decide) ?_
    refine va_sld hx hb hX hbl hbA hS (show ¬ ((1 : Int32) < 0 ∨ 6 ≤ Int32.toNatClampNeg 1) by decide) dL_law_829 ?_
    refine tk_i x1 ex1 ?_
    refine lv_aload_n hx hb dL_law_830 rfl (lv_at hl 3 rfl) ?_
    refine lv_iload_n hx hb dL_law_831 rfl (lv_at hl 0 rfl) ?_
    refine lv_iconst (v := 2) hx hb dL_law_832 (by decide) ?_
    refine lv_iadd hx hb dL_law_833 ?_
    refine tk_i 2 (by decide) ?_
    refine va_sld hx hb hX hbl hbA hS (show ¬ ((2 : Int32) < 0 ∨ 6 ≤ Int32.toNatClampNeg 2) by decide) dL_law_834 ?_
    refine tk_i x2 ex2 ?_
    refine lv_aload_n hx hb dL_law_835 rfl (lv_at hl 3 rfl) ?_
    refine lv_iload_n hx hb dL_law_836 rfl (lv_at hl 0 rfl) ?_
    refine lv_iconst (v := 3) hx hb dL_law_837 (by decide) ?_
    refine lv_iadd hx hb dL_law_838 ?_
    refine tk_i 3 (by decide) ?_
    refine va_sld hx hb hX hbl hbA hS (show ¬ ((3 : Int32) < 0 ∨ 6 ≤ Int32.toNatClampNeg 3) by decide) dL_law_839 ?_
    refine tk_i x3 ex3 ?_
    refine lv_aload_n hx hb dL_law_840 rfl (lv_at hl 3 rfl) ?_
    refine lv_iload_n hx hb dL_law_841 rfl (lv_at hl 0 rfl) ?_
    refine lv_iconst (v := 4) hx hb dL_law_842 (by decide) ?_
    refine lv_iadd hx hb dL_law_843 ?_
    refine tk_i 4 (by decide) ?_
    refine va_sld hx hb hX hbl hbA hS (show ¬ ((4 : Int32) < 0 ∨ 6 ≤ Int32.toNatClampNeg 4) by decide) dL_law_844 ?_
    refine tk_i x4 ex4 ?_
    refine lv_aload_n hx hb dL_law_845 rfl (lv_at hl 3 rfl) ?_
    refine lv_iload_n hx hb dL_law_846 rfl (lv_at hl 0 rfl) ?_
    refine lv_iconst (v := 5) hx hb dL_law_847 (by decide) ?_
    refine lv_iadd hx hb dL_law_848 ?_
    refine tk_i 5 (by decide) ?_
    refine va_sld hx hb hX hbl hbA hS (show ¬ ((5 : Int32) < 0 ∨ 6 ≤ Int32.toNatClampNeg 5) by decide) dL_law_849 ?_
    refine tk_i x5 ex5 ?_
    have hPc : va_P (dC, dI) vwCl (mw b cy) _ := hP.sub [56, 57, 58, 59, 60, 61, 62, 63] rfl
    have hDc := hD.sub (ws' := mw b cy) [56, 57, 58, 59, 60, 61, 62, 63] (by decide) rfl
    have hFc := va_free (wc := mw b cy) hD hS hA [56, 57, 58, 59, 60, 61, 62, 63] rfl
    refine va_calli (va_runV (As := [.int x1, .int x2, .int x3, .int x4, .int x5]) (rest := [.int 0]) ⟨hx, hb, hml, hown, hts⟩ (c_X12_tries l dC dI cy b _ x1 x2 x3 x4 x5) (cwV 5 hts g_L_law_X12_tries_114 rfl rfl rfl (by decide +kernel) ⟨Nat.le_of_ble_eq_true rfl, Nat.le_of_ble_eq_true rfl⟩) (pv_ps hC hPc hDc (ci := 12) (q0 := 0) rfl rfl) rfl rfl hl.1 rfl (lv_room (Nat.le_of_ble_eq_true rfl)) dL_law_850 ⟨Nat.le_of_ble_eq_true rfl, Nat.le_of_ble_eq_true rfl⟩) hS (fun q _ h => hFc q h) hFc (fun r_ u t_ H1 locs ht hvm hw hB hz1 hk1 hS => ?_)
    obtain ⟨hP, hD⟩ := va_join (wr := []) (w1 := []) hP hD [56, 57, 58, 59, 60, 61, 62, 63] [] rfl rfl (by decide) (by decide) hk1 hFc va_P0 va_D0
    generalize H1 = H at hP hS ⊢
    have hP : va_P (dC, dI) vwCl ([]) H := hP
    have hD : va_D A ([]) := hD
    rcases hw with ⟨c2317_, rfl⟩ | ⟨c2318_, c2319_, rfl⟩ | ⟨c2320_, c2321_, c2322_, c2323_, rfl⟩ | ⟨c2324_, c2325_, rfl⟩ | ⟨c2326_, c2327_, c2328_, c2329_, c2330_, rfl⟩ | ⟨c2331_, c2332_, c2333_, rfl⟩ | ⟨c2334_, c2335_, c2336_, c2337_, c2338_, c2339_, rfl⟩ | ⟨c2340_, c2341_, c2342_, c2343_, rfl⟩ | ⟨c2344_, c2345_, c2346_, c2347_, c2348_, c2349_, c2350_, rfl⟩ | ⟨c2351_, c2352_, c2353_, c2354_, c2355_, rfl⟩ | ⟨c2356_, c2357_, c2358_, c2359_, c2360_, c2361_, c2362_, c2363_, rfl⟩ | ⟨c2364_, c2365_, c2366_, c2367_, c2368_, c2369_, rfl⟩ | ⟨c2370_, c2371_, c2372_, c2373_, c2374_, c2375_, c2376_, c2377_, c2378_, rfl⟩ | ⟨c2379_, c2380_, c2381_, c2382_, c2383_, c2384_, c2385_, rfl⟩ | ⟨c2386_, c2387_, c2388_, c2389_, c2390_, c2391_, c2392_, c2393_, c2394_, c2395_, rfl⟩ | ⟨c2396_, c2397_, c2398_, c2399_, c2400_, c2401_, c2402_, c2403_, rfl⟩ | ⟨c2404_, c2405_, c2406_, c2407_, c2408_, c2409_, c2410_, c2411_, c2412_, c2413_, c2414_, rfl⟩ | ⟨c2415_, c2416_, c2417_, c2418_, c2419_, c2420_, c2421_, c2422_, c2423_, rfl⟩ | ⟨c2424_, c2425_, c2426_, c2427_, c2428_, c2429_, c2430_, c2431_, c2432_, c2433_, rfl⟩ | ⟨c2434_, c2435_, c2436_, c2437_, c2438_, c2439_, c2440_, c2441_, rfl⟩
    · skip
      exfalso
      have z0_ := tz_nlt_r c1342_ (show (0 : Int32).toInt = 0 by decide)
      have z1_ := tz_le_r c1343_ (show (4 : Int32).toInt = 4 by decide)
      have z2_ := tz_neq_r c1348_ (show (0 : Int32).toInt = 0 by decide)
      have z3_ := tz_lt_r c2317_ (show (0 : Int32).toInt = 0 by decide)
      omega
    · skip
      exfalso
      have z0_ := tz_nlt_r c1342_ (show (0 : Int32).toInt = 0 by decide)
      have z1_ := tz_le_r c1343_ (show (4 : Int32).toInt = 4 by decide)
      have z2_ := tz_neq_r c1348_ (show (0 : Int32).toInt = 0 by decide)
      have z3_ := tz_lt_l c2319_ (show (4 : Int32).toInt = 4 by decide)
      omega
    · skip
      exfalso
      have z0_ := tz_nlt_r c1344_ (show (0 : Int32).toInt = 0 by decide)
      have z1_ := tz_nle_l c1345_ (show (65536 : Int32).toInt = 65536 by decide)
      have z2_ := tz_lt_r c2322_ (show (0 : Int32).toInt = 0 by decide)
      omega
    · skip
      exfalso
      have z0_ := tz_nlt_r c1344_ (show (0 : Int32).toInt = 0 by decide)
      have z1_ := tz_nle_l c1345_ (show (65536 : Int32).toInt = 65536 by decide)
      have z2_ := tz_lt_r c2324_ (show (0 : Int32).toInt = 0 by decide)
      omega
    · skip
      exfalso
      have z0_ := tz_nlt_r c1344_ (show (0 : Int32).toInt = 0 by decide)
      have z1_ := tz_nle_l c1345_ (show (65536 : Int32).toInt = 65536 by decide)
      have z2_ := tz_le_l c2329_ (show (65536 : Int32).toInt = 65536 by decide)
      omega
    · skip
      exfalso
      have z0_ := tz_nlt_r c1344_ (show (0 : Int32).toInt = 0 by decide)
      have z1_ := tz_nle_l c1345_ (show (65536 : Int32).toInt = 65536 by decide)
      have z2_ := tz_le_l c2332_ (show (65536 : Int32).toInt = 65536 by decide)
      omega
    · skip
      exfalso
      have z0_ := tz_nlt_r c1346_ (show (0 : Int32).toInt = 0 by decide)
      have z1_ := tz_le_l c1347_ (show (65536 : Int32).toInt = 65536 by decide)
      have z2_ := tz_lt_r c2338_ (show (0 : Int32).toInt = 0 by decide)
      omega
    · skip
      exfalso
      have z0_ := tz_nlt_r c1346_ (show (0 : Int32).toInt = 0 by decide)
      have z1_ := tz_le_l c1347_ (show (65536 : Int32).toInt = 65536 by decide)
      have z2_ := tz_lt_r c2342_ (show (0 : Int32).toInt = 0 by decide)
      omega
    · skip
      refine lv_icmp_eq (tgt := 983) hx hb dL_law_853 (by decide) (fun _ => ?_) (fun c9_ => absurd (by decide) c9_)
      refine lv_iinc (v := 6) (lv' := [(3, .int 6), (2, .ref (b 0)), (1, .ref (a 0)), (0, .ref sc)]) hx hb dL_law_983 hl (k := 0) rfl (by decide) (by decide) rfl (fun ls hl => ?_)
      refine lv_goto (tgt := 18) hx hb dL_law_986 (by decide) ?_
      refine lv_iload_n hx hb dL_law_18 rfl (lv_at hl 0 rfl) ?_
      refine lv_aload_n hx hb dL_law_19 rfl (lv_at hl 3 rfl) ?_
      refine va_slen hx hb hX hbl hbA hS dL_law_20 ?_
      refine tk_i 6 (by decide) ?_
      refine lv_bipush (v := 6) hx hb dL_law_21 (by decide) ?_
      refine lv_isub hx hb dL_law_23 ?_
      refine tk_i 0 (by decide) ?_
      refine lv_icmp_gt (tgt := 989) hx hb dL_law_24 (by decide) (fun _ => ?_) (fun c9_ => absurd (by decide) c9_)
      refine lv_iconst (v := 1) hx hb dL_law_989 (by decide) ?_
      refine va_forget (fun q hq => by have h := hS.2.2 q hq; rw [hAe] at h; exact h) ?_
      refine W.widen (k := 600000) (n := 7302249) (Nat.le_of_ble_eq_true rfl) (Nat.le_of_ble_eq_true rfl) ?_
      exact lw_ret hx hb hr hlocks dL_law_990
    · skip
      exfalso
      have z0_ := tz_nlt_r c1342_ (show (0 : Int32).toInt = 0 by decide)
      have z1_ := tz_le_r c1343_ (show (4 : Int32).toInt = 4 by decide)
      have z2_ := tz_neq_r c1348_ (show (0 : Int32).toInt = 0 by decide)
      have z3_ := tz_eq_r c2355_ (show (0 : Int32).toInt = 0 by decide)
      omega
    · skip
      exfalso
      have z0_ := tz_nlt_r c1346_ (show (0 : Int32).toInt = 0 by decide)
      have z1_ := tz_le_l c1347_ (show (65536 : Int32).toInt = 65536 by decide)
      have z2_ := tz_nle_l c2361_ (show (65536 : Int32).toInt = 65536 by decide)
      omega
    · skip
      exfalso
      have z0_ := tz_nlt_r c1346_ (show (0 : Int32).toInt = 0 by decide)
      have z1_ := tz_le_l c1347_ (show (65536 : Int32).toInt = 65536 by decide)
      have z2_ := tz_nle_l c2367_ (show (65536 : Int32).toInt = 65536 by decide)
      omega
    · skip
      exfalso
      have z0_ := tz_nlt_r c1346_ (show (0 : Int32).toInt = 0 by decide)
      have z1_ := tz_le_l c1347_ (show (65536 : Int32).toInt = 65536 by decide)
      have z2_ := tz_nle_l c2375_ (show (65536 : Int32).toInt = 65536 by decide)
      omega
    · skip
      exfalso
      have z0_ := tz_nlt_r c1346_ (show (0 : Int32).toInt = 0 by decide)
      have z1_ := tz_le_l c1347_ (show (65536 : Int32).toInt = 65536 by decide)
      have z2_ := tz_nle_l c2382_ (show (65536 : Int32).toInt = 65536 by decide)
      omega
    · skip
      exfalso
      have z0_ := tz_nlt_r c1346_ (show (0 : Int32).toInt = 0 by decide)
      have z1_ := tz_le_l c1347_ (show (65536 : Int32).toInt = 65536 by decide)
      have z2_ := tz_nle_l c2391_ (show (65536 : Int32).toInt = 65536 by decide)
      omega
    · skip
      exfalso
      have z0_ := tz_nlt_r c1346_ (show (0 : Int32).toInt = 0 by decide)
      have z1_ := tz_le_l c1347_ (show (65536 : Int32).toInt = 65536 by decide)
      have z2_ := tz_nle_l c2399_ (show (65536 : Int32).toInt = 65536 by decide)
      omega
    · skip
      exfalso
      have z0_ := tz_nlt_r c1346_ (show (0 : Int32).toInt = 0 by decide)
      have z1_ := tz_le_l c1347_ (show (65536 : Int32).toInt = 65536 by decide)
      have z2_ := tz_nle_l c2409_ (show (65536 : Int32).toInt = 65536 by decide)
      omega
    · skip
      exfalso
      have z0_ := tz_nlt_r c1346_ (show (0 : Int32).toInt = 0 by decide)
      have z1_ := tz_le_l c1347_ (show (65536 : Int32).toInt = 65536 by decide)
      have z2_ := tz_nle_l c2418_ (show (65536 : Int32).toInt = 65536 by decide)
      omega
    · skip
      exfalso
      have z0_ := tz_nlt_r c1346_ (show (0 : Int32).toInt = 0 by decide)
      have z1_ := tz_le_l c1347_ (show (65536 : Int32).toInt = 65536 by decide)
      have z2_ := tz_nle_l c2429_ (show (65536 : Int32).toInt = 65536 by decide)
      omega
    · skip
      exfalso
      have z0_ := tz_nlt_r c1346_ (show (0 : Int32).toInt = 0 by decide)
      have z1_ := tz_le_l c1347_ (show (65536 : Int32).toInt = 65536 by decide)
      have z2_ := tz_nle_l c2437_ (show (65536 : Int32).toInt = 65536 by decide)
      omega
  · skip
    subst c1353_
    refine lv_aload_n hx hb dL_law_824 rfl (lv_at hl 1 rfl) ?_
    refine lv_aload_n hx hb dL_law_825 rfl (lv_at hl 3 rfl) ?_
    refine lv_iload_n hx hb dL_law_826 rfl (lv_at hl 0 rfl) ?_
    refine lv_iconst (v := 1) hx hb dL_law_827 (by decide) ?_
    refine lv_iadd hx hb dL_law_828 ?_
    refine tk_i 1 (by decide) ?_
    refine va_sld hx hb hX hbl hbA hS (show ¬ ((1 : Int32) < 0 ∨ 6 ≤ Int32.toNatClampNeg 1) by decide) dL_law_829 ?_
    refine tk_i x1 ex1 ?_
    refine lv_aload_n hx hb dL_law_830 rfl (lv_at hl 3 rfl) ?_
    refine lv_iload_n hx hb dL_law_831 rfl (lv_at hl 0 rfl) ?_
    refine lv_iconst (v := 2) hx hb dL_law_832 (by decide) ?_
    refine lv_iadd hx hb dL_law_833 ?_
    refine tk_i 2 (by decide) ?_
    refine va_sld hx hb hX hbl hbA hS (show ¬ ((2 : Int32) < 0 ∨ 6 ≤ Int32.toNatClampNeg 2) by decide) dL_law_834 ?_
    refine tk_i x2 ex2 ?_
    refine lv_aload_n hx hb dL_law_835 rfl (lv_at hl 3 rfl) ?_
    refine lv_iload_n hx hb dL_law_836 rfl (lv_at hl 0 rfl) ?_
    refine lv_iconst (v := 3) hx hb dL_law_837 (by decide) ?_
    refine lv_iadd hx hb dL_law_838 ?_
    refine tk_i 3 (by decide) ?_
    refine va_sld hx hb hX hbl hbA hS (show ¬ ((3 : Int32) < 0 ∨ 6 ≤ Int32.toNatClampNeg 3) by decide) dL_law_839 ?_
    refine tk_i x3 ex3 ?_
    refine lv_aload_n hx hb dL_law_840 rfl (lv_at hl 3 rfl) ?_
    refine lv_iload_n hx hb dL_law_841 rfl (lv_at hl 0 rfl) ?_
    refine lv_iconst (v := 4) hx hb dL_law_842 (by decide) ?_
    refine lv_iadd hx hb dL_law_843 ?_
    refine tk_i 4 (by decide) ?_
    refine va_sld hx hb hX hbl hbA hS (show ¬ ((4 : Int32) < 0 ∨ 6 ≤ Int32.toNatClampNeg 4) by decide) dL_law_844 ?_
    refine tk_i x4 ex4 ?_
    refine lv_aload_n hx hb dL_law_845 rfl (lv_at hl 3 rfl) ?_
    refine lv_iload_n hx hb dL_law_846 rfl (lv_at hl 0 rfl) ?_
    refine lv_iconst (v := 5) hx hb dL_law_847 (by decide) ?_
    refine lv_iadd hx hb dL_law_848 ?_
    refine tk_i 5 (by decide) ?_
    refine va_sld hx hb hX hbl hbA hS (show ¬ ((5 : Int32) < 0 ∨ 6 ≤ Int32.toNatClampNeg 5) by decide) dL_law_849 ?_
    refine tk_i 0 ex5 ?_
    have hPc : va_P (dC, dI) vwCl (mw b cy) _ := hP.sub [56, 57, 58, 59, 60, 61, 62, 63] rfl
    have hDc := hD.sub (ws' := mw b cy) [56, 57, 58, 59, 60, 61, 62, 63] (by decide) rfl
    have hFc := va_free (wc := mw b cy) hD hS hA [56, 57, 58, 59, 60, 61, 62, 63] rfl
    refine va_calli (va_runV (As := [.int x1, .int x2, .int x3, .int x4, .int 0]) (rest := [.int (-1)]) ⟨hx, hb, hml, hown, hts⟩ (c_X12_tries l dC dI cy b _ x1 x2 x3 x4 0) (cwV 5 hts g_L_law_X12_tries_114 rfl rfl rfl (by decide +kernel) ⟨Nat.le_of_ble_eq_true rfl, Nat.le_of_ble_eq_true rfl⟩) (pv_ps hC hPc hDc (ci := 12) (q0 := 0) rfl rfl) rfl rfl hl.1 rfl (lv_room (Nat.le_of_ble_eq_true rfl)) dL_law_850 ⟨Nat.le_of_ble_eq_true rfl, Nat.le_of_ble_eq_true rfl⟩) hS (fun q _ h => hFc q h) hFc (fun r_ u t_ H1 locs ht hvm hw hB hz1 hk1 hS => ?_)
    obtain ⟨hP, hD⟩ := va_join (wr := []) (w1 := []) hP hD [56, 57, 58, 59, 60, 61, 62, 63] [] rfl rfl (by decide) (by decide) hk1 hFc va_P0 va_D0
    generalize H1 = H at hP hS ⊢
    have hP : va_P (dC, dI) vwCl ([]) H := hP
    have hD : va_D A ([]) := hD
    rcases hw with ⟨c2442_, rfl⟩ | ⟨-, c2444_, rfl⟩ | ⟨-, -, c2447_, c2448_, rfl⟩ | ⟨c2449_, -, rfl⟩ | ⟨-, -, c2453_, c2454_, c2455_, rfl⟩ | ⟨c2456_, c2457_, -, rfl⟩ | ⟨-, -, c2461_, c2462_, c2463_, c2464_, rfl⟩ | ⟨c2465_, c2466_, c2467_, -, rfl⟩ | ⟨-, -, c2471_, c2472_, c2473_, c2474_, c2475_, rfl⟩ | ⟨c2476_, c2477_, c2478_, c2479_, -, rfl⟩ | ⟨-, -, c2483_, c2484_, c2485_, c2486_, c2487_, c2488_, rfl⟩ | ⟨c2489_, c2490_, c2491_, c2492_, c2493_, -, rfl⟩ | ⟨-, -, c2497_, c2498_, c2499_, c2500_, c2501_, c2502_, c2503_, rfl⟩ | ⟨c2504_, c2505_, c2506_, c2507_, c2508_, c2509_, -, rfl⟩ | ⟨-, -, c2513_, c2514_, c2515_, c2516_, c2517_, c2518_, c2519_, c2520_, rfl⟩ | ⟨c2521_, c2522_, c2523_, c2524_, c2525_, c2526_, c2527_, -, rfl⟩ | ⟨-, -, c2531_, c2532_, c2533_, c2534_, c2535_, c2536_, c2537_, c2538_, c2539_, rfl⟩ | ⟨c2540_, c2541_, c2542_, c2543_, c2544_, c2545_, c2546_, c2547_, -, rfl⟩ | ⟨-, -, c2551_, c2552_, c2553_, c2554_, c2555_, c2556_, c2557_, c2558_, rfl⟩ | ⟨c2559_, c2560_, c2561_, c2562_, c2563_, c2564_, c2565_, -, rfl⟩
    · skip
      exact absurd c2442_ (by decide)
    · skip
      exact absurd c2444_ (by decide)
    · skip
      exact absurd c2448_ (by decide)
    · skip
      exfalso
      have z0_ := tz_nlt_r c1349_ (show (0 : Int32).toInt = 0 by decide)
      have z1_ := tz_nle_l c1350_ (show (65536 : Int32).toInt = 65536 by decide)
      have z2_ := tz_lt_r c2449_ (show (0 : Int32).toInt = 0 by decide)
      omega
    · skip
      exact absurd c2455_ (by decide)
    · skip
      exfalso
      have z0_ := tz_nlt_r c1349_ (show (0 : Int32).toInt = 0 by decide)
      have z1_ := tz_nle_l c1350_ (show (65536 : Int32).toInt = 65536 by decide)
      have z2_ := tz_le_l c2457_ (show (65536 : Int32).toInt = 65536 by decide)
      omega
    · skip
      exact absurd c2464_ (by decide)
    · skip
      exfalso
      have z0_ := tz_nlt_r c1351_ (show (0 : Int32).toInt = 0 by decide)
      have z1_ := tz_le_l c1352_ (show (65536 : Int32).toInt = 65536 by decide)
      have z2_ := tz_lt_r c2467_ (show (0 : Int32).toInt = 0 by decide)
      omega
    · skip
      exact absurd c2475_ (by decide)
    · skip
      refine lv_icmp_eq (tgt := 983) hx hb dL_law_853 (by decide) (fun _ => ?_) (fun c9_ => absurd (by decide) c9_)
      refine lv_iinc (v := 6) (lv' := [(3, .int 6), (2, .ref (b 0)), (1, .ref (a 0)), (0, .ref sc)]) hx hb dL_law_983 hl (k := 0) rfl (by decide) (by decide) rfl (fun ls hl => ?_)
      refine lv_goto (tgt := 18) hx hb dL_law_986 (by decide) ?_
      refine lv_iload_n hx hb dL_law_18 rfl (lv_at hl 0 rfl) ?_
      refine lv_aload_n hx hb dL_law_19 rfl (lv_at hl 3 rfl) ?_
      refine va_slen hx hb hX hbl hbA hS dL_law_20 ?_
      refine tk_i 6 (by decide) ?_
      refine lv_bipush (v := 6) hx hb dL_law_21 (by decide) ?_
      refine lv_isub hx hb dL_law_23 ?_
      refine tk_i 0 (by decide) ?_
      refine lv_icmp_gt (tgt := 989) hx hb dL_law_24 (by decide) (fun _ => ?_) (fun c9_ => absurd (by decide) c9_)
      refine lv_iconst (v := 1) hx hb dL_law_989 (by decide) ?_
      refine va_forget (fun q hq => by have h := hS.2.2 q hq; rw [hAe] at h; exact h) ?_
      refine W.widen (k := 600000) (n := 7302249) (Nat.le_of_ble_eq_true rfl) (Nat.le_of_ble_eq_true rfl) ?_
      exact lw_ret hx hb hr hlocks dL_law_990
    · skip
      exact absurd c2488_ (by decide)
    · skip
      exfalso
      have z0_ := tz_nlt_r c1351_ (show (0 : Int32).toInt = 0 by decide)
      have z1_ := tz_le_l c1352_ (show (65536 : Int32).toInt = 65536 by decide)
      have z2_ := tz_nle_l c2492_ (show (65536 : Int32).toInt = 65536 by decide)
      omega
    · skip
      exact absurd c2503_ (by decide)
    · skip
      exfalso
      have z0_ := tz_nlt_r c1351_ (show (0 : Int32).toInt = 0 by decide)
      have z1_ := tz_le_l c1352_ (show (65536 : Int32).toInt = 65536 by decide)
      have z2_ := tz_nle_l c2507_ (show (65536 : Int32).toInt = 65536 by decide)
      omega
    · skip
      exact absurd c2520_ (by decide)
    · skip
      exfalso
      have z0_ := tz_nlt_r c1351_ (show (0 : Int32).toInt = 0 by decide)
      have z1_ := tz_le_l c1352_ (show (65536 : Int32).toInt = 65536 by decide)
      have z2_ := tz_nle_l c2524_ (show (65536 : Int32).toInt = 65536 by decide)
      omega
    · skip
      exact absurd c2539_ (by decide)
    · skip
      exfalso
      have z0_ := tz_nlt_r c1351_ (show (0 : Int32).toInt = 0 by decide)
      have z1_ := tz_le_l c1352_ (show (65536 : Int32).toInt = 65536 by decide)
      have z2_ := tz_nle_l c2543_ (show (65536 : Int32).toInt = 65536 by decide)
      omega
    · skip
      exact absurd c2558_ (by decide)
    · skip
      exfalso
      have z0_ := tz_nlt_r c1351_ (show (0 : Int32).toInt = 0 by decide)
      have z1_ := tz_le_l c1352_ (show (65536 : Int32).toInt = 65536 by decide)
      have z2_ := tz_nle_l c2562_ (show (65536 : Int32).toInt = 65536 by decide)
      omega
  · skip
    refine lv_aload_n hx hb dL_law_824 rfl (lv_at hl 1 rfl) ?_
    refine lv_aload_n hx hb dL_law_825 rfl (lv_at hl 3 rfl) ?_
    refine lv_iload_n hx hb dL_law_826 rfl (lv_at hl 0 rfl) ?_
    refine lv_iconst (v := 1) hx hb dL_law_827 (by decide) ?_
    refine lv_iadd hx hb dL_law_828 ?_
    refine tk_i 1 (by decide) ?_
    refine va_sld hx hb hX hbl hbA hS (show ¬ ((1 : Int32) < 0 ∨ 6 ≤ Int32.toNatClampNeg 1) by decide) dL_law_829 ?_
    refine tk_i x1 ex1 ?_
    refine lv_aload_n hx hb dL_law_830 rfl (lv_at hl 3 rfl) ?_
    refine lv_iload_n hx hb dL_law_831 rfl (lv_at hl 0 rfl) ?_
    refine lv_iconst (v := 2) hx hb dL_law_832 (by decide) ?_
    refine lv_iadd hx hb dL_law_833 ?_
    refine tk_i 2 (by decide) ?_
    refine va_sld hx hb hX hbl hbA hS (show ¬ ((2 : Int32) < 0 ∨ 6 ≤ Int32.toNatClampNeg 2) by decide) dL_law_834 ?_
    refine tk_i x2 ex2 ?_
    refine lv_aload_n hx hb dL_law_835 rfl (lv_at hl 3 rfl) ?_
    refine lv_iload_n hx hb dL_law_836 rfl (lv_at hl 0 rfl) ?_
    refine lv_iconst (v := 3) hx hb dL_law_837 (by decide) ?_
    refine lv_iadd hx hb dL_law_838 ?_
    refine tk_i 3 (by decide) ?_
    refine va_sld hx hb hX hbl hbA hS (show ¬ ((3 : Int32) < 0 ∨ 6 ≤ Int32.toNatClampNeg 3) by decide) dL_law_839 ?_
    refine tk_i x3 ex3 ?_
    refine lv_aload_n hx hb dL_law_840 rfl (lv_at hl 3 rfl) ?_
    refine lv_iload_n hx hb dL_law_841 rfl (lv_at hl 0 rfl) ?_
    refine lv_iconst (v := 4) hx hb dL_law_842 (by decide) ?_
    refine lv_iadd hx hb dL_law_843 ?_
    refine tk_i 4 (by decide) ?_
    refine va_sld hx hb hX hbl hbA hS (show ¬ ((4 : Int32) < 0 ∨ 6 ≤ Int32.toNatClampNeg 4) by decide) dL_law_844 ?_
    refine tk_i x4 ex4 ?_
    refine lv_aload_n hx hb dL_law_845 rfl (lv_at hl 3 rfl) ?_
    refine lv_iload_n hx hb dL_law_846 rfl (lv_at hl 0 rfl) ?_
    refine lv_iconst (v := 5) hx hb dL_law_847 (by decide) ?_
    refine lv_iadd hx hb dL_law_848 ?_
    refine tk_i 5 (by decide) ?_
    refine va_sld hx hb hX hbl hbA hS (show ¬ ((5 : Int32) < 0 ∨ 6 ≤ Int32.toNatClampNeg 5) by decide) dL_law_849 ?_
    refine tk_i x5 ex5 ?_
    have hPc : va_P (dC, dI) vwCl (mw b cy) _ := hP.sub [56, 57, 58, 59, 60, 61, 62, 63] rfl
    have hDc := hD.sub (ws' := mw b cy) [56, 57, 58, 59, 60, 61, 62, 63] (by decide) rfl
    have hFc := va_free (wc := mw b cy) hD hS hA [56, 57, 58, 59, 60, 61, 62, 63] rfl
    refine va_calli (va_runV (As := [.int x1, .int x2, .int x3, .int x4, .int x5]) (rest := [.int 0]) ⟨hx, hb, hml, hown, hts⟩ (c_X12_tries l dC dI cy b _ x1 x2 x3 x4 x5) (cwV 5 hts g_L_law_X12_tries_114 rfl rfl rfl (by decide +kernel) ⟨Nat.le_of_ble_eq_true rfl, Nat.le_of_ble_eq_true rfl⟩) (pv_ps hC hPc hDc (ci := 12) (q0 := 0) rfl rfl) rfl rfl hl.1 rfl (lv_room (Nat.le_of_ble_eq_true rfl)) dL_law_850 ⟨Nat.le_of_ble_eq_true rfl, Nat.le_of_ble_eq_true rfl⟩) hS (fun q _ h => hFc q h) hFc (fun r_ u t_ H1 locs ht hvm hw hB hz1 hk1 hS => ?_)
    obtain ⟨hP, hD⟩ := va_join (wr := []) (w1 := []) hP hD [56, 57, 58, 59, 60, 61, 62, 63] [] rfl rfl (by decide) (by decide) hk1 hFc va_P0 va_D0
    generalize H1 = H at hP hS ⊢
    have hP : va_P (dC, dI) vwCl ([]) H := hP
    have hD : va_D A ([]) := hD
    rcases hw with ⟨c2567_, rfl⟩ | ⟨c2568_, c2569_, rfl⟩ | ⟨c2570_, c2571_, c2572_, c2573_, rfl⟩ | ⟨c2574_, c2575_, rfl⟩ | ⟨c2576_, c2577_, c2578_, c2579_, c2580_, rfl⟩ | ⟨c2581_, c2582_, c2583_, rfl⟩ | ⟨c2584_, c2585_, c2586_, c2587_, c2588_, c2589_, rfl⟩ | ⟨c2590_, c2591_, c2592_, c2593_, rfl⟩ | ⟨c2594_, c2595_, c2596_, c2597_, c2598_, c2599_, c2600_, rfl⟩ | ⟨c2601_, c2602_, c2603_, c2604_, c2605_, rfl⟩ | ⟨c2606_, c2607_, c2608_, c2609_, c2610_, c2611_, c2612_, c2613_, rfl⟩ | ⟨c2614_, c2615_, c2616_, c2617_, c2618_, c2619_, rfl⟩ | ⟨c2620_, c2621_, c2622_, c2623_, c2624_, c2625_, c2626_, c2627_, c2628_, rfl⟩ | ⟨c2629_, c2630_, c2631_, c2632_, c2633_, c2634_, c2635_, rfl⟩ | ⟨c2636_, c2637_, c2638_, c2639_, c2640_, c2641_, c2642_, c2643_, c2644_, c2645_, rfl⟩ | ⟨c2646_, c2647_, c2648_, c2649_, c2650_, c2651_, c2652_, c2653_, rfl⟩ | ⟨c2654_, c2655_, c2656_, c2657_, c2658_, c2659_, c2660_, c2661_, c2662_, c2663_, c2664_, rfl⟩ | ⟨c2665_, c2666_, c2667_, c2668_, c2669_, c2670_, c2671_, c2672_, c2673_, rfl⟩ | ⟨c2674_, c2675_, c2676_, c2677_, c2678_, c2679_, c2680_, c2681_, c2682_, c2683_, rfl⟩ | ⟨c2684_, c2685_, c2686_, c2687_, c2688_, c2689_, c2690_, c2691_, rfl⟩
    · skip
      exfalso
      have z0_ := tz_nlt_r c1354_ (show (0 : Int32).toInt = 0 by decide)
      have z1_ := tz_le_r c1355_ (show (4 : Int32).toInt = 4 by decide)
      have z2_ := tz_neq_r c1361_ (show (0 : Int32).toInt = 0 by decide)
      have z3_ := tz_lt_r c2567_ (show (0 : Int32).toInt = 0 by decide)
      omega
    · skip
      exfalso
      have z0_ := tz_nlt_r c1354_ (show (0 : Int32).toInt = 0 by decide)
      have z1_ := tz_le_r c1355_ (show (4 : Int32).toInt = 4 by decide)
      have z2_ := tz_neq_r c1361_ (show (0 : Int32).toInt = 0 by decide)
      have z3_ := tz_lt_l c2569_ (show (4 : Int32).toInt = 4 by decide)
      omega
    · skip
      exfalso
      have z0_ := tz_nlt_r c1356_ (show (0 : Int32).toInt = 0 by decide)
      have z1_ := tz_nle_l c1357_ (show (65536 : Int32).toInt = 65536 by decide)
      have z2_ := tz_lt_r c2572_ (show (0 : Int32).toInt = 0 by decide)
      omega
    · skip
      exfalso
      have z0_ := tz_nlt_r c1356_ (show (0 : Int32).toInt = 0 by decide)
      have z1_ := tz_nle_l c1357_ (show (65536 : Int32).toInt = 65536 by decide)
      have z2_ := tz_lt_r c2574_ (show (0 : Int32).toInt = 0 by decide)
      omega
    · skip
      exfalso
      have z0_ := tz_nlt_r c1356_ (show (0 : Int32).toInt = 0 by decide)
      have z1_ := tz_nle_l c1357_ (show (65536 : Int32).toInt = 65536 by decide)
      have z2_ := tz_le_l c2579_ (show (65536 : Int32).toInt = 65536 by decide)
      omega
    · skip
      exfalso
      have z0_ := tz_nlt_r c1356_ (show (0 : Int32).toInt = 0 by decide)
      have z1_ := tz_nle_l c1357_ (show (65536 : Int32).toInt = 65536 by decide)
      have z2_ := tz_le_l c2582_ (show (65536 : Int32).toInt = 65536 by decide)
      omega
    · skip
      exfalso
      have z0_ := tz_nlt_r c1358_ (show (0 : Int32).toInt = 0 by decide)
      have z1_ := tz_nle_l c1359_ (show (65536 : Int32).toInt = 65536 by decide)
      have z2_ := tz_lt_r c2588_ (show (0 : Int32).toInt = 0 by decide)
      omega
    · skip
      exfalso
      have z0_ := tz_nlt_r c1358_ (show (0 : Int32).toInt = 0 by decide)
      have z1_ := tz_nle_l c1359_ (show (65536 : Int32).toInt = 65536 by decide)
      have z2_ := tz_lt_r c2592_ (show (0 : Int32).toInt = 0 by decide)
      omega
    · skip
      exfalso
      have z0_ := tz_nlt_r c1358_ (show (0 : Int32).toInt = 0 by decide)
      have z1_ := tz_nle_l c1359_ (show (65536 : Int32).toInt = 65536 by decide)
      have z2_ := tz_le_l c2599_ (show (65536 : Int32).toInt = 65536 by decide)
      omega
    · skip
      exfalso
      have z0_ := tz_nlt_r c1358_ (show (0 : Int32).toInt = 0 by decide)
      have z1_ := tz_nle_l c1359_ (show (65536 : Int32).toInt = 65536 by decide)
      have z2_ := tz_le_l c2604_ (show (65536 : Int32).toInt = 65536 by decide)
      omega
    · skip
      refine lv_icmp_eq (tgt := 983) hx hb dL_law_853 (by decide) (fun _ => ?_) (fun c9_ => absurd (by decide) c9_)
      refine lv_iinc (v := 6) (lv' := [(3, .int 6), (2, .ref (b 0)), (1, .ref (a 0)), (0, .ref sc)]) hx hb dL_law_983 hl (k := 0) rfl (by decide) (by decide) rfl (fun ls hl => ?_)
      refine lv_goto (tgt := 18) hx hb dL_law_986 (by decide) ?_
      refine lv_iload_n hx hb dL_law_18 rfl (lv_at hl 0 rfl) ?_
      refine lv_aload_n hx hb dL_law_19 rfl (lv_at hl 3 rfl) ?_
      refine va_slen hx hb hX hbl hbA hS dL_law_20 ?_
      refine tk_i 6 (by decide) ?_
      refine lv_bipush (v := 6) hx hb dL_law_21 (by decide) ?_
      refine lv_isub hx hb dL_law_23 ?_
      refine tk_i 0 (by decide) ?_
      refine lv_icmp_gt (tgt := 989) hx hb dL_law_24 (by decide) (fun _ => ?_) (fun c9_ => absurd (by decide) c9_)
      refine lv_iconst (v := 1) hx hb dL_law_989 (by decide) ?_
      refine va_forget (fun q hq => by have h := hS.2.2 q hq; rw [hAe] at h; exact h) ?_
      refine W.widen (k := 600000) (n := 7302249) (Nat.le_of_ble_eq_true rfl) (Nat.le_of_ble_eq_true rfl) ?_
      exact lw_ret hx hb hr hlocks dL_law_990
    · skip
      exfalso
      have z0_ := tz_nlt_r c1354_ (show (0 : Int32).toInt = 0 by decide)
      have z1_ := tz_le_r c1355_ (show (4 : Int32).toInt = 4 by decide)
      have z2_ := tz_neq_r c1361_ (show (0 : Int32).toInt = 0 by decide)
      have z3_ := tz_eq_r c2619_ (show (0 : Int32).toInt = 0 by decide)
      omega
    · skip
      exfalso
      have z0_ := tz_lt_r c1360_ (show (0 : Int32).toInt = 0 by decide)
      have z1_ := tz_nlt_r c2626_ (show (0 : Int32).toInt = 0 by decide)
      omega
    · skip
      exfalso
      have z0_ := tz_lt_r c1360_ (show (0 : Int32).toInt = 0 by decide)
      have z1_ := tz_nlt_r c2633_ (show (0 : Int32).toInt = 0 by decide)
      omega
    · skip
      exfalso
      have z0_ := tz_lt_r c1360_ (show (0 : Int32).toInt = 0 by decide)
      have z1_ := tz_nlt_r c2642_ (show (0 : Int32).toInt = 0 by decide)
      omega
    · skip
      exfalso
      have z0_ := tz_lt_r c1360_ (show (0 : Int32).toInt = 0 by decide)
      have z1_ := tz_nlt_r c2650_ (show (0 : Int32).toInt = 0 by decide)
      omega
    · skip
      exfalso
      have z0_ := tz_lt_r c1360_ (show (0 : Int32).toInt = 0 by decide)
      have z1_ := tz_nlt_r c2660_ (show (0 : Int32).toInt = 0 by decide)
      omega
    · skip
      exfalso
      have z0_ := tz_lt_r c1360_ (show (0 : Int32).toInt = 0 by decide)
      have z1_ := tz_nlt_r c2669_ (show (0 : Int32).toInt = 0 by decide)
      omega
    · skip
      exfalso
      have z0_ := tz_lt_r c1360_ (show (0 : Int32).toInt = 0 by decide)
      have z1_ := tz_nlt_r c2680_ (show (0 : Int32).toInt = 0 by decide)
      omega
    · skip
      exfalso
      have z0_ := tz_lt_r c1360_ (show (0 : Int32).toInt = 0 by decide)
      have z1_ := tz_nlt_r c2688_ (show (0 : Int32).toInt = 0 by decide)
      omega
  · skip
    subst c1367_
    refine lv_aload_n hx hb dL_law_824 rfl (lv_at hl 1 rfl) ?_
    refine lv_aload_n hx hb dL_law_825 rfl (lv_at hl 3 rfl) ?_
    refine lv_iload_n hx hb dL_law_826 rfl (lv_at hl 0 rfl) ?_
    refine lv_iconst (v := 1) hx hb dL_law_827 (by decide) ?_
    refine lv_iadd hx hb dL_law_828 ?_
    refine tk_i 1 (by decide) ?_
    refine va_sld hx hb hX hbl hbA hS (show ¬ ((1 : Int32) < 0 ∨ 6 ≤ Int32.toNatClampNeg 1) by decide) dL_law_829 ?_
    refine tk_i x1 ex1 ?_
    refine lv_aload_n hx hb dL_law_830 rfl (lv_at hl 3 rfl) ?_
    refine lv_iload_n hx hb dL_law_831 rfl (lv_at hl 0 rfl) ?_
    refine lv_iconst (v := 2) hx hb dL_law_832 (by decide) ?_
    refine lv_iadd hx hb dL_law_833 ?_
    refine tk_i 2 (by decide) ?_
    refine va_sld hx hb hX hbl hbA hS (show ¬ ((2 : Int32) < 0 ∨ 6 ≤ Int32.toNatClampNeg 2) by decide) dL_law_834 ?_
    refine tk_i x2 ex2 ?_
    refine lv_aload_n hx hb dL_law_835 rfl (lv_at hl 3 rfl) ?_
    refine lv_iload_n hx hb dL_law_836 rfl (lv_at hl 0 rfl) ?_
    refine lv_iconst (v := 3) hx hb dL_law_837 (by decide) ?_
    refine lv_iadd hx hb dL_law_838 ?_
    refine tk_i 3 (by decide) ?_
    refine va_sld hx hb hX hbl hbA hS (show ¬ ((3 : Int32) < 0 ∨ 6 ≤ Int32.toNatClampNeg 3) by decide) dL_law_839 ?_
    refine tk_i x3 ex3 ?_
    refine lv_aload_n hx hb dL_law_840 rfl (lv_at hl 3 rfl) ?_
    refine lv_iload_n hx hb dL_law_841 rfl (lv_at hl 0 rfl) ?_
    refine lv_iconst (v := 4) hx hb dL_law_842 (by decide) ?_
    refine lv_iadd hx hb dL_law_843 ?_
    refine tk_i 4 (by decide) ?_
    refine va_sld hx hb hX hbl hbA hS (show ¬ ((4 : Int32) < 0 ∨ 6 ≤ Int32.toNatClampNeg 4) by decide) dL_law_844 ?_
    refine tk_i x4 ex4 ?_
    refine lv_aload_n hx hb dL_law_845 rfl (lv_at hl 3 rfl) ?_
    refine lv_iload_n hx hb dL_law_846 rfl (lv_at hl 0 rfl) ?_
    refine lv_iconst (v := 5) hx hb dL_law_847 (by decide) ?_
    refine lv_iadd hx hb dL_law_848 ?_
    refine tk_i 5 (by decide) ?_
    refine va_sld hx hb hX hbl hbA hS (show ¬ ((5 : Int32) < 0 ∨ 6 ≤ Int32.toNatClampNeg 5) by decide) dL_law_849 ?_
    refine tk_i 0 ex5 ?_
    have hPc : va_P (dC, dI) vwCl (mw b cy) _ := hP.sub [56, 57, 58, 59, 60, 61, 62, 63] rfl
    have hDc := hD.sub (ws' := mw b cy) [56, 57, 58, 59, 60, 61, 62, 63] (by decide) rfl
    have hFc := va_free (wc := mw b cy) hD hS hA [56, 57, 58, 59, 60, 61, 62, 63] rfl
    refine va_calli (va_runV (As := [.int x1, .int x2, .int x3, .int x4, .int 0]) (rest := [.int (-1)]) ⟨hx, hb, hml, hown, hts⟩ (c_X12_tries l dC dI cy b _ x1 x2 x3 x4 0) (cwV 5 hts g_L_law_X12_tries_114 rfl rfl rfl (by decide +kernel) ⟨Nat.le_of_ble_eq_true rfl, Nat.le_of_ble_eq_true rfl⟩) (pv_ps hC hPc hDc (ci := 12) (q0 := 0) rfl rfl) rfl rfl hl.1 rfl (lv_room (Nat.le_of_ble_eq_true rfl)) dL_law_850 ⟨Nat.le_of_ble_eq_true rfl, Nat.le_of_ble_eq_true rfl⟩) hS (fun q _ h => hFc q h) hFc (fun r_ u t_ H1 locs ht hvm hw hB hz1 hk1 hS => ?_)
    obtain ⟨hP, hD⟩ := va_join (wr := []) (w1 := []) hP hD [56, 57, 58, 59, 60, 61, 62, 63] [] rfl rfl (by decide) (by decide) hk1 hFc va_P0 va_D0
    generalize H1 = H at hP hS ⊢
    have hP : va_P (dC, dI) vwCl ([]) H := hP
    have hD : va_D A ([]) := hD
    rcases hw with ⟨c2692_, rfl⟩ | ⟨-, c2694_, rfl⟩ | ⟨-, -, c2697_, c2698_, rfl⟩ | ⟨c2699_, -, rfl⟩ | ⟨-, -, c2703_, c2704_, c2705_, rfl⟩ | ⟨c2706_, c2707_, -, rfl⟩ | ⟨-, -, c2711_, c2712_, c2713_, c2714_, rfl⟩ | ⟨c2715_, c2716_, c2717_, -, rfl⟩ | ⟨-, -, c2721_, c2722_, c2723_, c2724_, c2725_, rfl⟩ | ⟨c2726_, c2727_, c2728_, c2729_, -, rfl⟩ | ⟨-, -, c2733_, c2734_, c2735_, c2736_, c2737_, c2738_, rfl⟩ | ⟨c2739_, c2740_, c2741_, c2742_, c2743_, -, rfl⟩ | ⟨-, -, c2747_, c2748_, c2749_, c2750_, c2751_, c2752_, c2753_, rfl⟩ | ⟨c2754_, c2755_, c2756_, c2757_, c2758_, c2759_, -, rfl⟩ | ⟨-, -, c2763_, c2764_, c2765_, c2766_, c2767_, c2768_, c2769_, c2770_, rfl⟩ | ⟨c2771_, c2772_, c2773_, c2774_, c2775_, c2776_, c2777_, -, rfl⟩ | ⟨-, -, c2781_, c2782_, c2783_, c2784_, c2785_, c2786_, c2787_, c2788_, c2789_, rfl⟩ | ⟨c2790_, c2791_, c2792_, c2793_, c2794_, c2795_, c2796_, c2797_, -, rfl⟩ | ⟨-, -, c2801_, c2802_, c2803_, c2804_, c2805_, c2806_, c2807_, c2808_, rfl⟩ | ⟨c2809_, c2810_, c2811_, c2812_, c2813_, c2814_, c2815_, -, rfl⟩
    · skip
      exact absurd c2692_ (by decide)
    · skip
      exact absurd c2694_ (by decide)
    · skip
      exact absurd c2698_ (by decide)
    · skip
      exfalso
      have z0_ := tz_nlt_r c1362_ (show (0 : Int32).toInt = 0 by decide)
      have z1_ := tz_nle_l c1363_ (show (65536 : Int32).toInt = 65536 by decide)
      have z2_ := tz_lt_r c2699_ (show (0 : Int32).toInt = 0 by decide)
      omega
    · skip
      exact absurd c2705_ (by decide)
    · skip
      exfalso
      have z0_ := tz_nlt_r c1362_ (show (0 : Int32).toInt = 0 by decide)
      have z1_ := tz_nle_l c1363_ (show (65536 : Int32).toInt = 65536 by decide)
      have z2_ := tz_le_l c2707_ (show (65536 : Int32).toInt = 65536 by decide)
      omega
    · skip
      exact absurd c2714_ (by decide)
    · skip
      exfalso
      have z0_ := tz_nlt_r c1364_ (show (0 : Int32).toInt = 0 by decide)
      have z1_ := tz_nle_l c1365_ (show (65536 : Int32).toInt = 65536 by decide)
      have z2_ := tz_lt_r c2717_ (show (0 : Int32).toInt = 0 by decide)
      omega
    · skip
      exact absurd c2725_ (by decide)
    · skip
      exfalso
      have z0_ := tz_nlt_r c1364_ (show (0 : Int32).toInt = 0 by decide)
      have z1_ := tz_nle_l c1365_ (show (65536 : Int32).toInt = 65536 by decide)
      have z2_ := tz_le_l c2729_ (show (65536 : Int32).toInt = 65536 by decide)
      omega
    · skip
      exact absurd c2738_ (by decide)
    · skip
      refine lv_icmp_eq (tgt := 983) hx hb dL_law_853 (by decide) (fun _ => ?_) (fun c9_ => absurd (by decide) c9_)
      refine lv_iinc (v := 6) (lv' := [(3, .int 6), (2, .ref (b 0)), (1, .ref (a 0)), (0, .ref sc)]) hx hb dL_law_983 hl (k := 0) rfl (by decide) (by decide) rfl (fun ls hl => ?_)
      refine lv_goto (tgt := 18) hx hb dL_law_986 (by decide) ?_
      refine lv_iload_n hx hb dL_law_18 rfl (lv_at hl 0 rfl) ?_
      refine lv_aload_n hx hb dL_law_19 rfl (lv_at hl 3 rfl) ?_
      refine va_slen hx hb hX hbl hbA hS dL_law_20 ?_
      refine tk_i 6 (by decide) ?_
      refine lv_bipush (v := 6) hx hb dL_law_21 (by decide) ?_
      refine lv_isub hx hb dL_law_23 ?_
      refine tk_i 0 (by decide) ?_
      refine lv_icmp_gt (tgt := 989) hx hb dL_law_24 (by decide) (fun _ => ?_) (fun c9_ => absurd (by decide) c9_)
      refine lv_iconst (v := 1) hx hb dL_law_989 (by decide) ?_
      refine va_forget (fun q hq => by have h := hS.2.2 q hq; rw [hAe] at h; exact h) ?_
      refine W.widen (k := 600000) (n := 7302249) (Nat.le_of_ble_eq_true rfl) (Nat.le_of_ble_eq_true rfl) ?_
      exact lw_ret hx hb hr hlocks dL_law_990
    · skip
      exact absurd c2753_ (by decide)
    · skip
      exfalso
      have z0_ := tz_lt_r c1366_ (show (0 : Int32).toInt = 0 by decide)
      have z1_ := tz_nlt_r c2758_ (show (0 : Int32).toInt = 0 by decide)
      omega
    · skip
      exact absurd c2770_ (by decide)
    · skip
      exfalso
      have z0_ := tz_lt_r c1366_ (show (0 : Int32).toInt = 0 by decide)
      have z1_ := tz_nlt_r c2775_ (show (0 : Int32).toInt = 0 by decide)
      omega
    · skip
      exact absurd c2789_ (by decide)
    · skip
      exfalso
      have z0_ := tz_lt_r c1366_ (show (0 : Int32).toInt = 0 by decide)
      have z1_ := tz_nlt_r c2794_ (show (0 : Int32).toInt = 0 by decide)
      omega
    · skip
      exact absurd c2808_ (by decide)
    · skip
      exfalso
      have z0_ := tz_lt_r c1366_ (show (0 : Int32).toInt = 0 by decide)
      have z1_ := tz_nlt_r c2813_ (show (0 : Int32).toInt = 0 by decide)
      omega
  · skip
    refine lv_aload_n hx hb dL_law_824 rfl (lv_at hl 1 rfl) ?_
    refine lv_aload_n hx hb dL_law_825 rfl (lv_at hl 3 rfl) ?_
    refine lv_iload_n hx hb dL_law_826 rfl (lv_at hl 0 rfl) ?_
    refine lv_iconst (v := 1) hx hb dL_law_827 (by decide) ?_
    refine lv_iadd hx hb dL_law_828 ?_
    refine tk_i 1 (by decide) ?_
    refine va_sld hx hb hX hbl hbA hS (show ¬ ((1 : Int32) < 0 ∨ 6 ≤ Int32.toNatClampNeg 1) by decide) dL_law_829 ?_
    refine tk_i x1 ex1 ?_
    refine lv_aload_n hx hb dL_law_830 rfl (lv_at hl 3 rfl) ?_
    refine lv_iload_n hx hb dL_law_831 rfl (lv_at hl 0 rfl) ?_
    refine lv_iconst (v := 2) hx hb dL_law_832 (by decide) ?_
    refine lv_iadd hx hb dL_law_833 ?_
    refine tk_i 2 (by decide) ?_
    refine va_sld hx hb hX hbl hbA hS (show ¬ ((2 : Int32) < 0 ∨ 6 ≤ Int32.toNatClampNeg 2) by decide) dL_law_834 ?_
    refine tk_i x2 ex2 ?_
    refine lv_aload_n hx hb dL_law_835 rfl (lv_at hl 3 rfl) ?_
    refine lv_iload_n hx hb dL_law_836 rfl (lv_at hl 0 rfl) ?_
    refine lv_iconst (v := 3) hx hb dL_law_837 (by decide) ?_
    refine lv_iadd hx hb dL_law_838 ?_
    refine tk_i 3 (by decide) ?_
    refine va_sld hx hb hX hbl hbA hS (show ¬ ((3 : Int32) < 0 ∨ 6 ≤ Int32.toNatClampNeg 3) by decide) dL_law_839 ?_
    refine tk_i x3 ex3 ?_
    refine lv_aload_n hx hb dL_law_840 rfl (lv_at hl 3 rfl) ?_
    refine lv_iload_n hx hb dL_law_841 rfl (lv_at hl 0 rfl) ?_
    refine lv_iconst (v := 4) hx hb dL_law_842 (by decide) ?_
    refine lv_iadd hx hb dL_law_843 ?_
    refine tk_i 4 (by decide) ?_
    refine va_sld hx hb hX hbl hbA hS (show ¬ ((4 : Int32) < 0 ∨ 6 ≤ Int32.toNatClampNeg 4) by decide) dL_law_844 ?_
    refine tk_i x4 ex4 ?_
    refine lv_aload_n hx hb dL_law_845 rfl (lv_at hl 3 rfl) ?_
    refine lv_iload_n hx hb dL_law_846 rfl (lv_at hl 0 rfl) ?_
    refine lv_iconst (v := 5) hx hb dL_law_847 (by decide) ?_
    refine lv_iadd hx hb dL_law_848 ?_
    refine tk_i 5 (by decide) ?_
    refine va_sld hx hb hX hbl hbA hS (show ¬ ((5 : Int32) < 0 ∨ 6 ≤ Int32.toNatClampNeg 5) by decide) dL_law_849 ?_
    refine tk_i x5 ex5 ?_
    have hPc : va_P (dC, dI) vwCl (mw b cy) _ := hP.sub [56, 57, 58, 59, 60, 61, 62, 63] rfl
    have hDc := hD.sub (ws' := mw b cy) [56, 57, 58, 59, 60, 61, 62, 63] (by decide) rfl
    have hFc := va_free (wc := mw b cy) hD hS hA [56, 57, 58, 59, 60, 61, 62, 63] rfl
    refine va_calli (va_runV (As := [.int x1, .int x2, .int x3, .int x4, .int x5]) (rest := [.int 0]) ⟨hx, hb, hml, hown, hts⟩ (c_X12_tries l dC dI cy b _ x1 x2 x3 x4 x5) (cwV 5 hts g_L_law_X12_tries_114 rfl rfl rfl (by decide +kernel) ⟨Nat.le_of_ble_eq_true rfl, Nat.le_of_ble_eq_true rfl⟩) (pv_ps hC hPc hDc (ci := 12) (q0 := 0) rfl rfl) rfl rfl hl.1 rfl (lv_room (Nat.le_of_ble_eq_true rfl)) dL_law_850 ⟨Nat.le_of_ble_eq_true rfl, Nat.le_of_ble_eq_true rfl⟩) hS (fun q _ h => hFc q h) hFc (fun r_ u t_ H1 locs ht hvm hw hB hz1 hk1 hS => ?_)
    obtain ⟨hP, hD⟩ := va_join (wr := []) (w1 := []) hP hD [56, 57, 58, 59, 60, 61, 62, 63] [] rfl rfl (by decide) (by decide) hk1 hFc va_P0 va_D0
    generalize H1 = H at hP hS ⊢
    have hP : va_P (dC, dI) vwCl ([]) H := hP
    have hD : va_D A ([]) := hD
    rcases hw with ⟨c2817_, rfl⟩ | ⟨c2818_, c2819_, rfl⟩ | ⟨c2820_, c2821_, c2822_, c2823_, rfl⟩ | ⟨c2824_, c2825_, rfl⟩ | ⟨c2826_, c2827_, c2828_, c2829_, c2830_, rfl⟩ | ⟨c2831_, c2832_, c2833_, rfl⟩ | ⟨c2834_, c2835_, c2836_, c2837_, c2838_, c2839_, rfl⟩ | ⟨c2840_, c2841_, c2842_, c2843_, rfl⟩ | ⟨c2844_, c2845_, c2846_, c2847_, c2848_, c2849_, c2850_, rfl⟩ | ⟨c2851_, c2852_, c2853_, c2854_, c2855_, rfl⟩ | ⟨c2856_, c2857_, c2858_, c2859_, c2860_, c2861_, c2862_, c2863_, rfl⟩ | ⟨c2864_, c2865_, c2866_, c2867_, c2868_, c2869_, rfl⟩ | ⟨c2870_, c2871_, c2872_, c2873_, c2874_, c2875_, c2876_, c2877_, c2878_, rfl⟩ | ⟨c2879_, c2880_, c2881_, c2882_, c2883_, c2884_, c2885_, rfl⟩ | ⟨c2886_, c2887_, c2888_, c2889_, c2890_, c2891_, c2892_, c2893_, c2894_, c2895_, rfl⟩ | ⟨c2896_, c2897_, c2898_, c2899_, c2900_, c2901_, c2902_, c2903_, rfl⟩ | ⟨c2904_, c2905_, c2906_, c2907_, c2908_, c2909_, c2910_, c2911_, c2912_, c2913_, c2914_, rfl⟩ | ⟨c2915_, c2916_, c2917_, c2918_, c2919_, c2920_, c2921_, c2922_, c2923_, rfl⟩ | ⟨c2924_, c2925_, c2926_, c2927_, c2928_, c2929_, c2930_, c2931_, c2932_, c2933_, rfl⟩ | ⟨c2934_, c2935_, c2936_, c2937_, c2938_, c2939_, c2940_, c2941_, rfl⟩
    · skip
      exfalso
      have z0_ := tz_nlt_r c1368_ (show (0 : Int32).toInt = 0 by decide)
      have z1_ := tz_le_r c1369_ (show (4 : Int32).toInt = 4 by decide)
      have z2_ := tz_neq_r c1376_ (show (0 : Int32).toInt = 0 by decide)
      have z3_ := tz_lt_r c2817_ (show (0 : Int32).toInt = 0 by decide)
      omega
    · skip
      exfalso
      have z0_ := tz_nlt_r c1368_ (show (0 : Int32).toInt = 0 by decide)
      have z1_ := tz_le_r c1369_ (show (4 : Int32).toInt = 4 by decide)
      have z2_ := tz_neq_r c1376_ (show (0 : Int32).toInt = 0 by decide)
      have z3_ := tz_lt_l c2819_ (show (4 : Int32).toInt = 4 by decide)
      omega
    · skip
      exfalso
      have z0_ := tz_nlt_r c1370_ (show (0 : Int32).toInt = 0 by decide)
      have z1_ := tz_nle_l c1371_ (show (65536 : Int32).toInt = 65536 by decide)
      have z2_ := tz_lt_r c2822_ (show (0 : Int32).toInt = 0 by decide)
      omega
    · skip
      exfalso
      have z0_ := tz_nlt_r c1370_ (show (0 : Int32).toInt = 0 by decide)
      have z1_ := tz_nle_l c1371_ (show (65536 : Int32).toInt = 65536 by decide)
      have z2_ := tz_lt_r c2824_ (show (0 : Int32).toInt = 0 by decide)
      omega
    · skip
      exfalso
      have z0_ := tz_nlt_r c1370_ (show (0 : Int32).toInt = 0 by decide)
      have z1_ := tz_nle_l c1371_ (show (65536 : Int32).toInt = 65536 by decide)
      have z2_ := tz_le_l c2829_ (show (65536 : Int32).toInt = 65536 by decide)
      omega
    · skip
      exfalso
      have z0_ := tz_nlt_r c1370_ (show (0 : Int32).toInt = 0 by decide)
      have z1_ := tz_nle_l c1371_ (show (65536 : Int32).toInt = 65536 by decide)
      have z2_ := tz_le_l c2832_ (show (65536 : Int32).toInt = 65536 by decide)
      omega
    · skip
      exfalso
      have z0_ := tz_nlt_r c1372_ (show (0 : Int32).toInt = 0 by decide)
      have z1_ := tz_nle_l c1373_ (show (65536 : Int32).toInt = 65536 by decide)
      have z2_ := tz_lt_r c2838_ (show (0 : Int32).toInt = 0 by decide)
      omega
    · skip
      exfalso
      have z0_ := tz_nlt_r c1372_ (show (0 : Int32).toInt = 0 by decide)
      have z1_ := tz_nle_l c1373_ (show (65536 : Int32).toInt = 65536 by decide)
      have z2_ := tz_lt_r c2842_ (show (0 : Int32).toInt = 0 by decide)
      omega
    · skip
      exfalso
      have z0_ := tz_nlt_r c1372_ (show (0 : Int32).toInt = 0 by decide)
      have z1_ := tz_nle_l c1373_ (show (65536 : Int32).toInt = 65536 by decide)
      have z2_ := tz_le_l c2849_ (show (65536 : Int32).toInt = 65536 by decide)
      omega
    · skip
      exfalso
      have z0_ := tz_nlt_r c1372_ (show (0 : Int32).toInt = 0 by decide)
      have z1_ := tz_nle_l c1373_ (show (65536 : Int32).toInt = 65536 by decide)
      have z2_ := tz_le_l c2854_ (show (65536 : Int32).toInt = 65536 by decide)
      omega
    · skip
      exfalso
      have z0_ := tz_nlt_r c1374_ (show (0 : Int32).toInt = 0 by decide)
      have z1_ := tz_le_l c1375_ (show (65536 : Int32).toInt = 65536 by decide)
      have z2_ := tz_lt_r c2862_ (show (0 : Int32).toInt = 0 by decide)
      omega
    · skip
      exfalso
      have z0_ := tz_nlt_r c1374_ (show (0 : Int32).toInt = 0 by decide)
      have z1_ := tz_le_l c1375_ (show (65536 : Int32).toInt = 65536 by decide)
      have z2_ := tz_lt_r c2868_ (show (0 : Int32).toInt = 0 by decide)
      omega
    · skip
      refine lv_icmp_eq (tgt := 983) hx hb dL_law_853 (by decide) (fun _ => ?_) (fun c9_ => absurd (by decide) c9_)
      refine lv_iinc (v := 6) (lv' := [(3, .int 6), (2, .ref (b 0)), (1, .ref (a 0)), (0, .ref sc)]) hx hb dL_law_983 hl (k := 0) rfl (by decide) (by decide) rfl (fun ls hl => ?_)
      refine lv_goto (tgt := 18) hx hb dL_law_986 (by decide) ?_
      refine lv_iload_n hx hb dL_law_18 rfl (lv_at hl 0 rfl) ?_
      refine lv_aload_n hx hb dL_law_19 rfl (lv_at hl 3 rfl) ?_
      refine va_slen hx hb hX hbl hbA hS dL_law_20 ?_
      refine tk_i 6 (by decide) ?_
      refine lv_bipush (v := 6) hx hb dL_law_21 (by decide) ?_
      refine lv_isub hx hb dL_law_23 ?_
      refine tk_i 0 (by decide) ?_
      refine lv_icmp_gt (tgt := 989) hx hb dL_law_24 (by decide) (fun _ => ?_) (fun c9_ => absurd (by decide) c9_)
      refine lv_iconst (v := 1) hx hb dL_law_989 (by decide) ?_
      refine va_forget (fun q hq => by have h := hS.2.2 q hq; rw [hAe] at h; exact h) ?_
      refine W.widen (k := 600000) (n := 7302249) (Nat.le_of_ble_eq_true rfl) (Nat.le_of_ble_eq_true rfl) ?_
      exact lw_ret hx hb hr hlocks dL_law_990
    · skip
      exfalso
      have z0_ := tz_nlt_r c1368_ (show (0 : Int32).toInt = 0 by decide)
      have z1_ := tz_le_r c1369_ (show (4 : Int32).toInt = 4 by decide)
      have z2_ := tz_neq_r c1376_ (show (0 : Int32).toInt = 0 by decide)
      have z3_ := tz_eq_r c2885_ (show (0 : Int32).toInt = 0 by decide)
      omega
    · skip
      exfalso
      have z0_ := tz_nlt_r c1374_ (show (0 : Int32).toInt = 0 by decide)
      have z1_ := tz_le_l c1375_ (show (65536 : Int32).toInt = 65536 by decide)
      have z2_ := tz_nle_l c2893_ (show (65536 : Int32).toInt = 65536 by decide)
      omega
    · skip
      exfalso
      have z0_ := tz_nlt_r c1374_ (show (0 : Int32).toInt = 0 by decide)
      have z1_ := tz_le_l c1375_ (show (65536 : Int32).toInt = 65536 by decide)
      have z2_ := tz_nle_l c2901_ (show (65536 : Int32).toInt = 65536 by decide)
      omega
    · skip
      exfalso
      have z0_ := tz_nlt_r c1374_ (show (0 : Int32).toInt = 0 by decide)
      have z1_ := tz_le_l c1375_ (show (65536 : Int32).toInt = 65536 by decide)
      have z2_ := tz_nle_l c2911_ (show (65536 : Int32).toInt = 65536 by decide)
      omega
    · skip
      exfalso
      have z0_ := tz_nlt_r c1374_ (show (0 : Int32).toInt = 0 by decide)
      have z1_ := tz_le_l c1375_ (show (65536 : Int32).toInt = 65536 by decide)
      have z2_ := tz_nle_l c2920_ (show (65536 : Int32).toInt = 65536 by decide)
      omega
    · skip
      exfalso
      have z0_ := tz_nlt_r c1374_ (show (0 : Int32).toInt = 0 by decide)
      have z1_ := tz_le_l c1375_ (show (65536 : Int32).toInt = 65536 by decide)
      have z2_ := tz_nle_l c2931_ (show (65536 : Int32).toInt = 65536 by decide)
      omega
    · skip
      exfalso
      have z0_ := tz_nlt_r c1374_ (show (0 : Int32).toInt = 0 by decide)
      have z1_ := tz_le_l c1375_ (show (65536 : Int32).toInt = 65536 by decide)
      have z2_ := tz_nle_l c2939_ (show (65536 : Int32).toInt = 65536 by decide)
      omega
  · skip
    subst c1383_
    refine lv_aload_n hx hb dL_law_824 rfl (lv_at hl 1 rfl) ?_
    refine lv_aload_n hx hb dL_law_825 rfl (lv_at hl 3 rfl) ?_
    refine lv_iload_n hx hb dL_law_826 rfl (lv_at hl 0 rfl) ?_
    refine lv_iconst (v := 1) hx hb dL_law_827 (by decide) ?_
    refine lv_iadd hx hb dL_law_828 ?_
    refine tk_i 1 (by decide) ?_
    refine va_sld hx hb hX hbl hbA hS (show ¬ ((1 : Int32) < 0 ∨ 6 ≤ Int32.toNatClampNeg 1) by decide) dL_law_829 ?_
    refine tk_i x1 ex1 ?_
    refine lv_aload_n hx hb dL_law_830 rfl (lv_at hl 3 rfl) ?_
    refine lv_iload_n hx hb dL_law_831 rfl (lv_at hl 0 rfl) ?_
    refine lv_iconst (v := 2) hx hb dL_law_832 (by decide) ?_
    refine lv_iadd hx hb dL_law_833 ?_
    refine tk_i 2 (by decide) ?_
    refine va_sld hx hb hX hbl hbA hS (show ¬ ((2 : Int32) < 0 ∨ 6 ≤ Int32.toNatClampNeg 2) by decide) dL_law_834 ?_
    refine tk_i x2 ex2 ?_
    refine lv_aload_n hx hb dL_law_835 rfl (lv_at hl 3 rfl) ?_
    refine lv_iload_n hx hb dL_law_836 rfl (lv_at hl 0 rfl) ?_
    refine lv_iconst (v := 3) hx hb dL_law_837 (by decide) ?_
    refine lv_iadd hx hb dL_law_838 ?_
    refine tk_i 3 (by decide) ?_
    refine va_sld hx hb hX hbl hbA hS (show ¬ ((3 : Int32) < 0 ∨ 6 ≤ Int32.toNatClampNeg 3) by decide) dL_law_839 ?_
    refine tk_i x3 ex3 ?_
    refine lv_aload_n hx hb dL_law_840 rfl (lv_at hl 3 rfl) ?_
    refine lv_iload_n hx hb dL_law_841 rfl (lv_at hl 0 rfl) ?_
    refine lv_iconst (v := 4) hx hb dL_law_842 (by decide) ?_
    refine lv_iadd hx hb dL_law_843 ?_
    refine tk_i 4 (by decide) ?_
    refine va_sld hx hb hX hbl hbA hS (show ¬ ((4 : Int32) < 0 ∨ 6 ≤ Int32.toNatClampNeg 4) by decide) dL_law_844 ?_
    refine tk_i x4 ex4 ?_
    refine lv_aload_n hx hb dL_law_845 rfl (lv_at hl 3 rfl) ?_
    refine lv_iload_n hx hb dL_law_846 rfl (lv_at hl 0 rfl) ?_
    refine lv_iconst (v := 5) hx hb dL_law_847 (by decide) ?_
    refine lv_iadd hx hb dL_law_848 ?_
    refine tk_i 5 (by decide) ?_
    refine va_sld hx hb hX hbl hbA hS (show ¬ ((5 : Int32) < 0 ∨ 6 ≤ Int32.toNatClampNeg 5) by decide) dL_law_849 ?_
    refine tk_i 0 ex5 ?_
    have hPc : va_P (dC, dI) vwCl (mw b cy) _ := hP.sub [56, 57, 58, 59, 60, 61, 62, 63] rfl
    have hDc := hD.sub (ws' := mw b cy) [56, 57, 58, 59, 60, 61, 62, 63] (by decide) rfl
    have hFc := va_free (wc := mw b cy) hD hS hA [56, 57, 58, 59, 60, 61, 62, 63] rfl
    refine va_calli (va_runV (As := [.int x1, .int x2, .int x3, .int x4, .int 0]) (rest := [.int (-1)]) ⟨hx, hb, hml, hown, hts⟩ (c_X12_tries l dC dI cy b _ x1 x2 x3 x4 0) (cwV 5 hts g_L_law_X12_tries_114 rfl rfl rfl (by decide +kernel) ⟨Nat.le_of_ble_eq_true rfl, Nat.le_of_ble_eq_true rfl⟩) (pv_ps hC hPc hDc (ci := 12) (q0 := 0) rfl rfl) rfl rfl hl.1 rfl (lv_room (Nat.le_of_ble_eq_true rfl)) dL_law_850 ⟨Nat.le_of_ble_eq_true rfl, Nat.le_of_ble_eq_true rfl⟩) hS (fun q _ h => hFc q h) hFc (fun r_ u t_ H1 locs ht hvm hw hB hz1 hk1 hS => ?_)
    obtain ⟨hP, hD⟩ := va_join (wr := []) (w1 := []) hP hD [56, 57, 58, 59, 60, 61, 62, 63] [] rfl rfl (by decide) (by decide) hk1 hFc va_P0 va_D0
    generalize H1 = H at hP hS ⊢
    have hP : va_P (dC, dI) vwCl ([]) H := hP
    have hD : va_D A ([]) := hD
    rcases hw with ⟨c2942_, rfl⟩ | ⟨-, c2944_, rfl⟩ | ⟨-, -, c2947_, c2948_, rfl⟩ | ⟨c2949_, -, rfl⟩ | ⟨-, -, c2953_, c2954_, c2955_, rfl⟩ | ⟨c2956_, c2957_, -, rfl⟩ | ⟨-, -, c2961_, c2962_, c2963_, c2964_, rfl⟩ | ⟨c2965_, c2966_, c2967_, -, rfl⟩ | ⟨-, -, c2971_, c2972_, c2973_, c2974_, c2975_, rfl⟩ | ⟨c2976_, c2977_, c2978_, c2979_, -, rfl⟩ | ⟨-, -, c2983_, c2984_, c2985_, c2986_, c2987_, c2988_, rfl⟩ | ⟨c2989_, c2990_, c2991_, c2992_, c2993_, -, rfl⟩ | ⟨-, -, c2997_, c2998_, c2999_, c3000_, c3001_, c3002_, c3003_, rfl⟩ | ⟨c3004_, c3005_, c3006_, c3007_, c3008_, c3009_, -, rfl⟩ | ⟨-, -, c3013_, c3014_, c3015_, c3016_, c3017_, c3018_, c3019_, c3020_, rfl⟩ | ⟨c3021_, c3022_, c3023_, c3024_, c3025_, c3026_, c3027_, -, rfl⟩ | ⟨-, -, c3031_, c3032_, c3033_, c3034_, c3035_, c3036_, c3037_, c3038_, c3039_, rfl⟩ | ⟨c3040_, c3041_, c3042_, c3043_, c3044_, c3045_, c3046_, c3047_, -, rfl⟩ | ⟨-, -, c3051_, c3052_, c3053_, c3054_, c3055_, c3056_, c3057_, c3058_, rfl⟩ | ⟨c3059_, c3060_, c3061_, c3062_, c3063_, c3064_, c3065_, -, rfl⟩
    · skip
      exact absurd c2942_ (by decide)
    · skip
      exact absurd c2944_ (by decide)
    · skip
      exact absurd c2948_ (by decide)
    · skip
      exfalso
      have z0_ := tz_nlt_r c1377_ (show (0 : Int32).toInt = 0 by decide)
      have z1_ := tz_nle_l c1378_ (show (65536 : Int32).toInt = 65536 by decide)
      have z2_ := tz_lt_r c2949_ (show (0 : Int32).toInt = 0 by decide)
      omega
    · skip
      exact absurd c2955_ (by decide)
    · skip
      exfalso
      have z0_ := tz_nlt_r c1377_ (show (0 : Int32).toInt = 0 by decide)
      have z1_ := tz_nle_l c1378_ (show (65536 : Int32).toInt = 65536 by decide)
      have z2_ := tz_le_l c2957_ (show (65536 : Int32).toInt = 65536 by decide)
      omega
    · skip
      exact absurd c2964_ (by decide)
    · skip
      exfalso
      have z0_ := tz_nlt_r c1379_ (show (0 : Int32).toInt = 0 by decide)
      have z1_ := tz_nle_l c1380_ (show (65536 : Int32).toInt = 65536 by decide)
      have z2_ := tz_lt_r c2967_ (show (0 : Int32).toInt = 0 by decide)
      omega
    · skip
      exact absurd c2975_ (by decide)
    · skip
      exfalso
      have z0_ := tz_nlt_r c1379_ (show (0 : Int32).toInt = 0 by decide)
      have z1_ := tz_nle_l c1380_ (show (65536 : Int32).toInt = 65536 by decide)
      have z2_ := tz_le_l c2979_ (show (65536 : Int32).toInt = 65536 by decide)
      omega
    · skip
      exact absurd c2988_ (by decide)
    · skip
      exfalso
      have z0_ := tz_nlt_r c1381_ (show (0 : Int32).toInt = 0 by decide)
      have z1_ := tz_le_l c1382_ (show (65536 : Int32).toInt = 65536 by decide)
      have z2_ := tz_lt_r c2993_ (show (0 : Int32).toInt = 0 by decide)
      omega
    · skip
      exact absurd c3003_ (by decide)
    · skip
      refine lv_icmp_eq (tgt := 983) hx hb dL_law_853 (by decide) (fun _ => ?_) (fun c9_ => absurd (by decide) c9_)
      refine lv_iinc (v := 6) (lv' := [(3, .int 6), (2, .ref (b 0)), (1, .ref (a 0)), (0, .ref sc)]) hx hb dL_law_983 hl (k := 0) rfl (by decide) (by decide) rfl (fun ls hl => ?_)
      refine lv_goto (tgt := 18) hx hb dL_law_986 (by decide) ?_
      refine lv_iload_n hx hb dL_law_18 rfl (lv_at hl 0 rfl) ?_
      refine lv_aload_n hx hb dL_law_19 rfl (lv_at hl 3 rfl) ?_
      refine va_slen hx hb hX hbl hbA hS dL_law_20 ?_
      refine tk_i 6 (by decide) ?_
      refine lv_bipush (v := 6) hx hb dL_law_21 (by decide) ?_
      refine lv_isub hx hb dL_law_23 ?_
      refine tk_i 0 (by decide) ?_
      refine lv_icmp_gt (tgt := 989) hx hb dL_law_24 (by decide) (fun _ => ?_) (fun c9_ => absurd (by decide) c9_)
      refine lv_iconst (v := 1) hx hb dL_law_989 (by decide) ?_
      refine va_forget (fun q hq => by have h := hS.2.2 q hq; rw [hAe] at h; exact h) ?_
      refine W.widen (k := 600000) (n := 7302249) (Nat.le_of_ble_eq_true rfl) (Nat.le_of_ble_eq_true rfl) ?_
      exact lw_ret hx hb hr hlocks dL_law_990
    · skip
      exact absurd c3020_ (by decide)
    · skip
      exfalso
      have z0_ := tz_nlt_r c1381_ (show (0 : Int32).toInt = 0 by decide)
      have z1_ := tz_le_l c1382_ (show (65536 : Int32).toInt = 65536 by decide)
      have z2_ := tz_nle_l c3026_ (show (65536 : Int32).toInt = 65536 by decide)
      omega
    · skip
      exact absurd c3039_ (by decide)
    · skip
      exfalso
      have z0_ := tz_nlt_r c1381_ (show (0 : Int32).toInt = 0 by decide)
      have z1_ := tz_le_l c1382_ (show (65536 : Int32).toInt = 65536 by decide)
      have z2_ := tz_nle_l c3045_ (show (65536 : Int32).toInt = 65536 by decide)
      omega
    · skip
      exact absurd c3058_ (by decide)
    · skip
      exfalso
      have z0_ := tz_nlt_r c1381_ (show (0 : Int32).toInt = 0 by decide)
      have z1_ := tz_le_l c1382_ (show (65536 : Int32).toInt = 65536 by decide)
      have z2_ := tz_nle_l c3064_ (show (65536 : Int32).toInt = 65536 by decide)
      omega
  · skip
    refine lv_aload_n hx hb dL_law_824 rfl (lv_at hl 1 rfl) ?_
    refine lv_aload_n hx hb dL_law_825 rfl (lv_at hl 3 rfl) ?_
    refine lv_iload_n hx hb dL_law_826 rfl (lv_at hl 0 rfl) ?_
    refine lv_iconst (v := 1) hx hb dL_law_827 (by decide) ?_
    refine lv_iadd hx hb dL_law_828 ?_
    refine tk_i 1 (by decide) ?_
    refine va_sld hx hb hX hbl hbA hS (show ¬ ((1 : Int32) < 0 ∨ 6 ≤ Int32.toNatClampNeg 1) by decide) dL_law_829 ?_
    refine tk_i x1 ex1 ?_
    refine lv_aload_n hx hb dL_law_830 rfl (lv_at hl 3 rfl) ?_
    refine lv_iload_n hx hb dL_law_831 rfl (lv_at hl 0 rfl) ?_
    refine lv_iconst (v := 2) hx hb dL_law_832 (by decide) ?_
    refine lv_iadd hx hb dL_law_833 ?_
    refine tk_i 2 (by decide) ?_
    refine va_sld hx hb hX hbl hbA hS (show ¬ ((2 : Int32) < 0 ∨ 6 ≤ Int32.toNatClampNeg 2) by decide) dL_law_834 ?_
    refine tk_i x2 ex2 ?_
    refine lv_aload_n hx hb dL_law_835 rfl (lv_at hl 3 rfl) ?_
    refine lv_iload_n hx hb dL_law_836 rfl (lv_at hl 0 rfl) ?_
    refine lv_iconst (v := 3) hx hb dL_law_837 (by decide) ?_
    refine lv_iadd hx hb dL_law_838 ?_
    refine tk_i 3 (by decide) ?_
    refine va_sld hx hb hX hbl hbA hS (show ¬ ((3 : Int32) < 0 ∨ 6 ≤ Int32.toNatClampNeg 3) by decide) dL_law_839 ?_
    refine tk_i x3 ex3 ?_
    refine lv_aload_n hx hb dL_law_840 rfl (lv_at hl 3 rfl) ?_
    refine lv_iload_n hx hb dL_law_841 rfl (lv_at hl 0 rfl) ?_
    refine lv_iconst (v := 4) hx hb dL_law_842 (by decide) ?_
    refine lv_iadd hx hb dL_law_843 ?_
    refine tk_i 4 (by decide) ?_
    refine va_sld hx hb hX hbl hbA hS (show ¬ ((4 : Int32) < 0 ∨ 6 ≤ Int32.toNatClampNeg 4) by decide) dL_law_844 ?_
    refine tk_i x4 ex4 ?_
    refine lv_aload_n hx hb dL_law_845 rfl (lv_at hl 3 rfl) ?_
    refine lv_iload_n hx hb dL_law_846 rfl (lv_at hl 0 rfl) ?_
    refine lv_iconst (v := 5) hx hb dL_law_847 (by decide) ?_
    refine lv_iadd hx hb dL_law_848 ?_
    refine tk_i 5 (by decide) ?_
    refine va_sld hx hb hX hbl hbA hS (show ¬ ((5 : Int32) < 0 ∨ 6 ≤ Int32.toNatClampNeg 5) by decide) dL_law_849 ?_
    refine tk_i x5 ex5 ?_
    have hPc : va_P (dC, dI) vwCl (mw b cy) _ := hP.sub [56, 57, 58, 59, 60, 61, 62, 63] rfl
    have hDc := hD.sub (ws' := mw b cy) [56, 57, 58, 59, 60, 61, 62, 63] (by decide) rfl
    have hFc := va_free (wc := mw b cy) hD hS hA [56, 57, 58, 59, 60, 61, 62, 63] rfl
    refine va_calli (va_runV (As := [.int x1, .int x2, .int x3, .int x4, .int x5]) (rest := [.int 0]) ⟨hx, hb, hml, hown, hts⟩ (c_X12_tries l dC dI cy b _ x1 x2 x3 x4 x5) (cwV 5 hts g_L_law_X12_tries_114 rfl rfl rfl (by decide +kernel) ⟨Nat.le_of_ble_eq_true rfl, Nat.le_of_ble_eq_true rfl⟩) (pv_ps hC hPc hDc (ci := 12) (q0 := 0) rfl rfl) rfl rfl hl.1 rfl (lv_room (Nat.le_of_ble_eq_true rfl)) dL_law_850 ⟨Nat.le_of_ble_eq_true rfl, Nat.le_of_ble_eq_true rfl⟩) hS (fun q _ h => hFc q h) hFc (fun r_ u t_ H1 locs ht hvm hw hB hz1 hk1 hS => ?_)
    obtain ⟨hP, hD⟩ := va_join (wr := []) (w1 := []) hP hD [56, 57, 58, 59, 60, 61, 62, 63] [] rfl rfl (by decide) (by decide) hk1 hFc va_P0 va_D0
    generalize H1 = H at hP hS ⊢
    have hP : va_P (dC, dI) vwCl ([]) H := hP
    have hD : va_D A ([]) := hD
    rcases hw with ⟨c3067_, rfl⟩ | ⟨c3068_, c3069_, rfl⟩ | ⟨c3070_, c3071_, c3072_, c3073_, rfl⟩ | ⟨c3074_, c3075_, rfl⟩ | ⟨c3076_, c3077_, c3078_, c3079_, c3080_, rfl⟩ | ⟨c3081_, c3082_, c3083_, rfl⟩ | ⟨c3084_, c3085_, c3086_, c3087_, c3088_, c3089_, rfl⟩ | ⟨c3090_, c3091_, c3092_, c3093_, rfl⟩ | ⟨c3094_, c3095_, c3096_, c3097_, c3098_, c3099_, c3100_, rfl⟩ | ⟨c3101_, c3102_, c3103_, c3104_, c3105_, rfl⟩ | ⟨c3106_, c3107_, c3108_, c3109_, c3110_, c3111_, c3112_, c3113_, rfl⟩ | ⟨c3114_, c3115_, c3116_, c3117_, c3118_, c3119_, rfl⟩ | ⟨c3120_, c3121_, c3122_, c3123_, c3124_, c3125_, c3126_, c3127_, c3128_, rfl⟩ | ⟨c3129_, c3130_, c3131_, c3132_, c3133_, c3134_, c3135_, rfl⟩ | ⟨c3136_, c3137_, c3138_, c3139_, c3140_, c3141_, c3142_, c3143_, c3144_, c3145_, rfl⟩ | ⟨c3146_, c3147_, c3148_, c3149_, c3150_, c3151_, c3152_, c3153_, rfl⟩ | ⟨c3154_, c3155_, c3156_, c3157_, c3158_, c3159_, c3160_, c3161_, c3162_, c3163_, c3164_, rfl⟩ | ⟨c3165_, c3166_, c3167_, c3168_, c3169_, c3170_, c3171_, c3172_, c3173_, rfl⟩ | ⟨c3174_, c3175_, c3176_, c3177_, c3178_, c3179_, c3180_, c3181_, c3182_, c3183_, rfl⟩ | ⟨c3184_, c3185_, c3186_, c3187_, c3188_, c3189_, c3190_, c3191_, rfl⟩
    · skip
      exfalso
      have z0_ := tz_nlt_r c1384_ (show (0 : Int32).toInt = 0 by decide)
      have z1_ := tz_le_r c1385_ (show (4 : Int32).toInt = 4 by decide)
      have z2_ := tz_neq_r c1393_ (show (0 : Int32).toInt = 0 by decide)
      have z3_ := tz_lt_r c3067_ (show (0 : Int32).toInt = 0 by decide)
      omega
    · skip
      exfalso
      have z0_ := tz_nlt_r c1384_ (show (0 : Int32).toInt = 0 by decide)
      have z1_ := tz_le_r c1385_ (show (4 : Int32).toInt = 4 by decide)
      have z2_ := tz_neq_r c1393_ (show (0 : Int32).toInt = 0 by decide)
      have z3_ := tz_lt_l c3069_ (show (4 : Int32).toInt = 4 by decide)
      omega
    · skip
      exfalso
      have z0_ := tz_nlt_r c1386_ (show (0 : Int32).toInt = 0 by decide)
      have z1_ := tz_nle_l c1387_ (show (65536 : Int32).toInt = 65536 by decide)
      have z2_ := tz_lt_r c3072_ (show (0 : Int32).toInt = 0 by decide)
      omega
    · skip
      exfalso
      have z0_ := tz_nlt_r c1386_ (show (0 : Int32).toInt = 0 by decide)
      have z1_ := tz_nle_l c1387_ (show (65536 : Int32).toInt = 65536 by decide)
      have z2_ := tz_lt_r c3074_ (show (0 : Int32).toInt = 0 by decide)
      omega
    · skip
      exfalso
      have z0_ := tz_nlt_r c1386_ (show (0 : Int32).toInt = 0 by decide)
      have z1_ := tz_nle_l c1387_ (show (65536 : Int32).toInt = 65536 by decide)
      have z2_ := tz_le_l c3079_ (show (65536 : Int32).toInt = 65536 by decide)
      omega
    · skip
      exfalso
      have z0_ := tz_nlt_r c1386_ (show (0 : Int32).toInt = 0 by decide)
      have z1_ := tz_nle_l c1387_ (show (65536 : Int32).toInt = 65536 by decide)
      have z2_ := tz_le_l c3082_ (show (65536 : Int32).toInt = 65536 by decide)
      omega
    · skip
      exfalso
      have z0_ := tz_nlt_r c1388_ (show (0 : Int32).toInt = 0 by decide)
      have z1_ := tz_nle_l c1389_ (show (65536 : Int32).toInt = 65536 by decide)
      have z2_ := tz_lt_r c3088_ (show (0 : Int32).toInt = 0 by decide)
      omega
    · skip
      exfalso
      have z0_ := tz_nlt_r c1388_ (show (0 : Int32).toInt = 0 by decide)
      have z1_ := tz_nle_l c1389_ (show (65536 : Int32).toInt = 65536 by decide)
      have z2_ := tz_lt_r c3092_ (show (0 : Int32).toInt = 0 by decide)
      omega
    · skip
      exfalso
      have z0_ := tz_nlt_r c1388_ (show (0 : Int32).toInt = 0 by decide)
      have z1_ := tz_nle_l c1389_ (show (65536 : Int32).toInt = 65536 by decide)
      have z2_ := tz_le_l c3099_ (show (65536 : Int32).toInt = 65536 by decide)
      omega
    · skip
      exfalso
      have z0_ := tz_nlt_r c1388_ (show (0 : Int32).toInt = 0 by decide)
      have z1_ := tz_nle_l c1389_ (show (65536 : Int32).toInt = 65536 by decide)
      have z2_ := tz_le_l c3104_ (show (65536 : Int32).toInt = 65536 by decide)
      omega
    · skip
      exfalso
      have z0_ := tz_nlt_r c1390_ (show (0 : Int32).toInt = 0 by decide)
      have z1_ := tz_nle_l c1391_ (show (65536 : Int32).toInt = 65536 by decide)
      have z2_ := tz_lt_r c3112_ (show (0 : Int32).toInt = 0 by decide)
      omega
    · skip
      exfalso
      have z0_ := tz_nlt_r c1390_ (show (0 : Int32).toInt = 0 by decide)
      have z1_ := tz_nle_l c1391_ (show (65536 : Int32).toInt = 65536 by decide)
      have z2_ := tz_lt_r c3118_ (show (0 : Int32).toInt = 0 by decide)
      omega
    · skip
      exfalso
      have z0_ := tz_nlt_r c1390_ (show (0 : Int32).toInt = 0 by decide)
      have z1_ := tz_nle_l c1391_ (show (65536 : Int32).toInt = 65536 by decide)
      have z2_ := tz_le_l c3127_ (show (65536 : Int32).toInt = 65536 by decide)
      omega
    · skip
      exfalso
      have z0_ := tz_nlt_r c1390_ (show (0 : Int32).toInt = 0 by decide)
      have z1_ := tz_nle_l c1391_ (show (65536 : Int32).toInt = 65536 by decide)
      have z2_ := tz_le_l c3134_ (show (65536 : Int32).toInt = 65536 by decide)
      omega
    · skip
      refine lv_icmp_eq (tgt := 983) hx hb dL_law_853 (by decide) (fun _ => ?_) (fun c9_ => absurd (by decide) c9_)
      refine lv_iinc (v := 6) (lv' := [(3, .int 6), (2, .ref (b 0)), (1, .ref (a 0)), (0, .ref sc)]) hx hb dL_law_983 hl (k := 0) rfl (by decide) (by decide) rfl (fun ls hl => ?_)
      refine lv_goto (tgt := 18) hx hb dL_law_986 (by decide) ?_
      refine lv_iload_n hx hb dL_law_18 rfl (lv_at hl 0 rfl) ?_
      refine lv_aload_n hx hb dL_law_19 rfl (lv_at hl 3 rfl) ?_
      refine va_slen hx hb hX hbl hbA hS dL_law_20 ?_
      refine tk_i 6 (by decide) ?_
      refine lv_bipush (v := 6) hx hb dL_law_21 (by decide) ?_
      refine lv_isub hx hb dL_law_23 ?_
      refine tk_i 0 (by decide) ?_
      refine lv_icmp_gt (tgt := 989) hx hb dL_law_24 (by decide) (fun _ => ?_) (fun c9_ => absurd (by decide) c9_)
      refine lv_iconst (v := 1) hx hb dL_law_989 (by decide) ?_
      refine va_forget (fun q hq => by have h := hS.2.2 q hq; rw [hAe] at h; exact h) ?_
      refine W.widen (k := 600000) (n := 7302249) (Nat.le_of_ble_eq_true rfl) (Nat.le_of_ble_eq_true rfl) ?_
      exact lw_ret hx hb hr hlocks dL_law_990
    · skip
      exfalso
      have z0_ := tz_nlt_r c1384_ (show (0 : Int32).toInt = 0 by decide)
      have z1_ := tz_le_r c1385_ (show (4 : Int32).toInt = 4 by decide)
      have z2_ := tz_neq_r c1393_ (show (0 : Int32).toInt = 0 by decide)
      have z3_ := tz_eq_r c3153_ (show (0 : Int32).toInt = 0 by decide)
      omega
    · skip
      exfalso
      have z0_ := tz_lt_r c1392_ (show (0 : Int32).toInt = 0 by decide)
      have z1_ := tz_nlt_r c3162_ (show (0 : Int32).toInt = 0 by decide)
      omega
    · skip
      exfalso
      have z0_ := tz_lt_r c1392_ (show (0 : Int32).toInt = 0 by decide)
      have z1_ := tz_nlt_r c3171_ (show (0 : Int32).toInt = 0 by decide)
      omega
    · skip
      exfalso
      have z0_ := tz_lt_r c1392_ (show (0 : Int32).toInt = 0 by decide)
      have z1_ := tz_eq_r c3182_ (show (0 : Int32).toInt = 0 by decide)
      omega
    · skip
      exfalso
      have z0_ := tz_lt_r c1392_ (show (0 : Int32).toInt = 0 by decide)
      have z1_ := tz_eq_r c3190_ (show (0 : Int32).toInt = 0 by decide)
      omega
  · skip
    subst c1401_
    refine lv_aload_n hx hb dL_law_824 rfl (lv_at hl 1 rfl) ?_
    refine lv_aload_n hx hb dL_law_825 rfl (lv_at hl 3 rfl) ?_
    refine lv_iload_n hx hb dL_law_826 rfl (lv_at hl 0 rfl) ?_
    refine lv_iconst (v := 1) hx hb dL_law_827 (by decide) ?_
    refine lv_iadd hx hb dL_law_828 ?_
    refine tk_i 1 (by decide) ?_
    refine va_sld hx hb hX hbl hbA hS (show ¬ ((1 : Int32) < 0 ∨ 6 ≤ Int32.toNatClampNeg 1) by decide) dL_law_829 ?_
    refine tk_i x1 ex1 ?_
    refine lv_aload_n hx hb dL_law_830 rfl (lv_at hl 3 rfl) ?_
    refine lv_iload_n hx hb dL_law_831 rfl (lv_at hl 0 rfl) ?_
    refine lv_iconst (v := 2) hx hb dL_law_832 (by decide) ?_
    refine lv_iadd hx hb dL_law_833 ?_
    refine tk_i 2 (by decide) ?_
    refine va_sld hx hb hX hbl hbA hS (show ¬ ((2 : Int32) < 0 ∨ 6 ≤ Int32.toNatClampNeg 2) by decide) dL_law_834 ?_
    refine tk_i x2 ex2 ?_
    refine lv_aload_n hx hb dL_law_835 rfl (lv_at hl 3 rfl) ?_
    refine lv_iload_n hx hb dL_law_836 rfl (lv_at hl 0 rfl) ?_
    refine lv_iconst (v := 3) hx hb dL_law_837 (by decide) ?_
    refine lv_iadd hx hb dL_law_838 ?_
    refine tk_i 3 (by decide) ?_
    refine va_sld hx hb hX hbl hbA hS (show ¬ ((3 : Int32) < 0 ∨ 6 ≤ Int32.toNatClampNeg 3) by decide) dL_law_839 ?_
    refine tk_i x3 ex3 ?_
    refine lv_aload_n hx hb dL_law_840 rfl (lv_at hl 3 rfl) ?_
    refine lv_iload_n hx hb dL_law_841 rfl (lv_at hl 0 rfl) ?_
    refine lv_iconst (v := 4) hx hb dL_law_842 (by decide) ?_
    refine lv_iadd hx hb dL_law_843 ?_
    refine tk_i 4 (by decide) ?_
    refine va_sld hx hb hX hbl hbA hS (show ¬ ((4 : Int32) < 0 ∨ 6 ≤ Int32.toNatClampNeg 4) by decide) dL_law_844 ?_
    refine tk_i x4 ex4 ?_
    refine lv_aload_n hx hb dL_law_845 rfl (lv_at hl 3 rfl) ?_
    refine lv_iload_n hx hb dL_law_846 rfl (lv_at hl 0 rfl) ?_
    refine lv_iconst (v := 5) hx hb dL_law_847 (by decide) ?_
    refine lv_iadd hx hb dL_law_848 ?_
    refine tk_i 5 (by decide) ?_
    refine va_sld hx hb hX hbl hbA hS (show ¬ ((5 : Int32) < 0 ∨ 6 ≤ Int32.toNatClampNeg 5) by decide) dL_law_849 ?_
    refine tk_i 0 ex5 ?_
    have hPc : va_P (dC, dI) vwCl (mw b cy) _ := hP.sub [56, 57, 58, 59, 60, 61, 62, 63] rfl
    have hDc := hD.sub (ws' := mw b cy) [56, 57, 58, 59, 60, 61, 62, 63] (by decide) rfl
    have hFc := va_free (wc := mw b cy) hD hS hA [56, 57, 58, 59, 60, 61, 62, 63] rfl
    refine va_calli (va_runV (As := [.int x1, .int x2, .int x3, .int x4, .int 0]) (rest := [.int (-2)]) ⟨hx, hb, hml, hown, hts⟩ (c_X12_tries l dC dI cy b _ x1 x2 x3 x4 0) (cwV 5 hts g_L_law_X12_tries_114 rfl rfl rfl (by decide +kernel) ⟨Nat.le_of_ble_eq_true rfl, Nat.le_of_ble_eq_true rfl⟩) (pv_ps hC hPc hDc (ci := 12) (q0 := 0) rfl rfl) rfl rfl hl.1 rfl (lv_room (Nat.le_of_ble_eq_true rfl)) dL_law_850 ⟨Nat.le_of_ble_eq_true rfl, Nat.le_of_ble_eq_true rfl⟩) hS (fun q _ h => hFc q h) hFc (fun r_ u t_ H1 locs ht hvm hw hB hz1 hk1 hS => ?_)
    obtain ⟨hP, hD⟩ := va_join (wr := []) (w1 := []) hP hD [56, 57, 58, 59, 60, 61, 62, 63] [] rfl rfl (by decide) (by decide) hk1 hFc va_P0 va_D0
    generalize H1 = H at hP hS ⊢
    have hP : va_P (dC, dI) vwCl ([]) H := hP
    have hD : va_D A ([]) := hD
    rcases hw with ⟨c3192_, rfl⟩ | ⟨-, c3194_, rfl⟩ | ⟨-, -, c3197_, c3198_, rfl⟩ | ⟨c3199_, -, rfl⟩ | ⟨-, -, c3203_, c3204_, c3205_, rfl⟩ | ⟨c3206_, c3207_, -, rfl⟩ | ⟨-, -, c3211_, c3212_, c3213_, c3214_, rfl⟩ | ⟨c3215_, c3216_, c3217_, -, rfl⟩ | ⟨-, -, c3221_, c3222_, c3223_, c3224_, c3225_, rfl⟩ | ⟨c3226_, c3227_, c3228_, c3229_, -, rfl⟩ | ⟨-, -, c3233_, c3234_, c3235_, c3236_, c3237_, c3238_, rfl⟩ | ⟨c3239_, c3240_, c3241_, c3242_, c3243_, -, rfl⟩ | ⟨-, -, c3247_, c3248_, c3249_, c3250_, c3251_, c3252_, c3253_, rfl⟩ | ⟨c3254_, c3255_, c3256_, c3257_, c3258_, c3259_, -, rfl⟩ | ⟨-, -, c3263_, c3264_, c3265_, c3266_, c3267_, c3268_, c3269_, c3270_, rfl⟩ | ⟨c3271_, c3272_, c3273_, c3274_, c3275_, c3276_, c3277_, -, rfl⟩ | ⟨-, -, c3281_, c3282_, c3283_, c3284_, c3285_, c3286_, c3287_, c3288_, c3289_, rfl⟩ | ⟨c3290_, c3291_, c3292_, c3293_, c3294_, c3295_, c3296_, c3297_, -, rfl⟩ | ⟨-, -, c3301_, c3302_, c3303_, c3304_, c3305_, c3306_, c3307_, c3308_, rfl⟩ | ⟨c3309_, c3310_, c3311_, c3312_, c3313_, c3314_, c3315_, -, rfl⟩
    · skip
      exact absurd c3192_ (by decide)
    · skip
      exact absurd c3194_ (by decide)
    · skip
      exact absurd c3198_ (by decide)
    · skip
      exfalso
      have z0_ := tz_nlt_r c1394_ (show (0 : Int32).toInt = 0 by decide)
      have z1_ := tz_nle_l c1395_ (show (65536 : Int32).toInt = 65536 by decide)
      have z2_ := tz_lt_r c3199_ (show (0 : Int32).toInt = 0 by decide)
      omega
    · skip
      exact absurd c3205_ (by decide)
    · skip
      exfalso
      have z0_ := tz_nlt_r c1394_ (show (0 : Int32).toInt = 0 by decide)
      have z1_ := tz_nle_l c1395_ (show (65536 : Int32).toInt = 65536 by decide)
      have z2_ := tz_le_l c3207_ (show (65536 : Int32).toInt = 65536 by decide)
      omega
    · skip
      exact absurd c3214_ (by decide)
    · skip
      exfalso
      have z0_ := tz_nlt_r c1396_ (show (0 : Int32).toInt = 0 by decide)
      have z1_ := tz_nle_l c1397_ (show (65536 : Int32).toInt = 65536 by decide)
      have z2_ := tz_lt_r c3217_ (show (0 : Int32).toInt = 0 by decide)
      omega
    · skip
      exact absurd c3225_ (by decide)
    · skip
      exfalso
      have z0_ := tz_nlt_r c1396_ (show (0 : Int32).toInt = 0 by decide)
      have z1_ := tz_nle_l c1397_ (show (65536 : Int32).toInt = 65536 by decide)
      have z2_ := tz_le_l c3229_ (show (65536 : Int32).toInt = 65536 by decide)
      omega
    · skip
      exact absurd c3238_ (by decide)
    · skip
      exfalso
      have z0_ := tz_nlt_r c1398_ (show (0 : Int32).toInt = 0 by decide)
      have z1_ := tz_nle_l c1399_ (show (65536 : Int32).toInt = 65536 by decide)
      have z2_ := tz_lt_r c3243_ (show (0 : Int32).toInt = 0 by decide)
      omega
    · skip
      exact absurd c3253_ (by decide)
    · skip
      exfalso
      have z0_ := tz_nlt_r c1398_ (show (0 : Int32).toInt = 0 by decide)
      have z1_ := tz_nle_l c1399_ (show (65536 : Int32).toInt = 65536 by decide)
      have z2_ := tz_le_l c3259_ (show (65536 : Int32).toInt = 65536 by decide)
      omega
    · skip
      exact absurd c3270_ (by decide)
    · skip
      refine lv_icmp_eq (tgt := 983) hx hb dL_law_853 (by decide) (fun _ => ?_) (fun c9_ => absurd (by decide) c9_)
      refine lv_iinc (v := 6) (lv' := [(3, .int 6), (2, .ref (b 0)), (1, .ref (a 0)), (0, .ref sc)]) hx hb dL_law_983 hl (k := 0) rfl (by decide) (by decide) rfl (fun ls hl => ?_)
      refine lv_goto (tgt := 18) hx hb dL_law_986 (by decide) ?_
      refine lv_iload_n hx hb dL_law_18 rfl (lv_at hl 0 rfl) ?_
      refine lv_aload_n hx hb dL_law_19 rfl (lv_at hl 3 rfl) ?_
      refine va_slen hx hb hX hbl hbA hS dL_law_20 ?_
      refine tk_i 6 (by decide) ?_
      refine lv_bipush (v := 6) hx hb dL_law_21 (by decide) ?_
      refine lv_isub hx hb dL_law_23 ?_
      refine tk_i 0 (by decide) ?_
      refine lv_icmp_gt (tgt := 989) hx hb dL_law_24 (by decide) (fun _ => ?_) (fun c9_ => absurd (by decide) c9_)
      refine lv_iconst (v := 1) hx hb dL_law_989 (by decide) ?_
      refine va_forget (fun q hq => by have h := hS.2.2 q hq; rw [hAe] at h; exact h) ?_
      refine W.widen (k := 600000) (n := 7302249) (Nat.le_of_ble_eq_true rfl) (Nat.le_of_ble_eq_true rfl) ?_
      exact lw_ret hx hb hr hlocks dL_law_990
    · skip
      exact absurd c3289_ (by decide)
    · skip
      exfalso
      have z0_ := tz_lt_r c1400_ (show (0 : Int32).toInt = 0 by decide)
      have z1_ := tz_nlt_r c3296_ (show (0 : Int32).toInt = 0 by decide)
      omega
    · skip
      exact absurd c3308_ (by decide)
    · skip
      exfalso
      have z0_ := tz_lt_r c1400_ (show (0 : Int32).toInt = 0 by decide)
      have z1_ := tz_eq_r c3315_ (show (0 : Int32).toInt = 0 by decide)
      omega
  · skip
    refine lv_aload_n hx hb dL_law_824 rfl (lv_at hl 1 rfl) ?_
    refine lv_aload_n hx hb dL_law_825 rfl (lv_at hl 3 rfl) ?_
    refine lv_iload_n hx hb dL_law_826 rfl (lv_at hl 0 rfl) ?_
    refine lv_iconst (v := 1) hx hb dL_law_827 (by decide) ?_
    refine lv_iadd hx hb dL_law_828 ?_
    refine tk_i 1 (by decide) ?_
    refine va_sld hx hb hX hbl hbA hS (show ¬ ((1 : Int32) < 0 ∨ 6 ≤ Int32.toNatClampNeg 1) by decide) dL_law_829 ?_
    refine tk_i x1 ex1 ?_
    refine lv_aload_n hx hb dL_law_830 rfl (lv_at hl 3 rfl) ?_
    refine lv_iload_n hx hb dL_law_831 rfl (lv_at hl 0 rfl) ?_
    refine lv_iconst (v := 2) hx hb dL_law_832 (by decide) ?_
    refine lv_iadd hx hb dL_law_833 ?_
    refine tk_i 2 (by decide) ?_
    refine va_sld hx hb hX hbl hbA hS (show ¬ ((2 : Int32) < 0 ∨ 6 ≤ Int32.toNatClampNeg 2) by decide) dL_law_834 ?_
    refine tk_i x2 ex2 ?_
    refine lv_aload_n hx hb dL_law_835 rfl (lv_at hl 3 rfl) ?_
    refine lv_iload_n hx hb dL_law_836 rfl (lv_at hl 0 rfl) ?_
    refine lv_iconst (v := 3) hx hb dL_law_837 (by decide) ?_
    refine lv_iadd hx hb dL_law_838 ?_
    refine tk_i 3 (by decide) ?_
    refine va_sld hx hb hX hbl hbA hS (show ¬ ((3 : Int32) < 0 ∨ 6 ≤ Int32.toNatClampNeg 3) by decide) dL_law_839 ?_
    refine tk_i x3 ex3 ?_
    refine lv_aload_n hx hb dL_law_840 rfl (lv_at hl 3 rfl) ?_
    refine lv_iload_n hx hb dL_law_841 rfl (lv_at hl 0 rfl) ?_
    refine lv_iconst (v := 4) hx hb dL_law_842 (by decide) ?_
    refine lv_iadd hx hb dL_law_843 ?_
    refine tk_i 4 (by decide) ?_
    refine va_sld hx hb hX hbl hbA hS (show ¬ ((4 : Int32) < 0 ∨ 6 ≤ Int32.toNatClampNeg 4) by decide) dL_law_844 ?_
    refine tk_i x4 ex4 ?_
    refine lv_aload_n hx hb dL_law_845 rfl (lv_at hl 3 rfl) ?_
    refine lv_iload_n hx hb dL_law_846 rfl (lv_at hl 0 rfl) ?_
    refine lv_iconst (v := 5) hx hb dL_law_847 (by decide) ?_
    refine lv_iadd hx hb dL_law_848 ?_
    refine tk_i 5 (by decide) ?_
    refine va_sld hx hb hX hbl hbA hS (show ¬ ((5 : Int32) < 0 ∨ 6 ≤ Int32.toNatClampNeg 5) by decide) dL_law_849 ?_
    refine tk_i x5 ex5 ?_
    have hPc : va_P (dC, dI) vwCl (mw b cy) _ := hP.sub [56, 57, 58, 59, 60, 61, 62, 63] rfl
    have hDc := hD.sub (ws' := mw b cy) [56, 57, 58, 59, 60, 61, 62, 63] (by decide) rfl
    have hFc := va_free (wc := mw b cy) hD hS hA [56, 57, 58, 59, 60, 61, 62, 63] rfl
    refine va_calli (va_runV (As := [.int x1, .int x2, .int x3, .int x4, .int x5]) (rest := [.int 0]) ⟨hx, hb, hml, hown, hts⟩ (c_X12_tries l dC dI cy b _ x1 x2 x3 x4 x5) (cwV 5 hts g_L_law_X12_tries_114 rfl rfl rfl (by decide +kernel) ⟨Nat.le_of_ble_eq_true rfl, Nat.le_of_ble_eq_true rfl⟩) (pv_ps hC hPc hDc (ci := 12) (q0 := 0) rfl rfl) rfl rfl hl.1 rfl (lv_room (Nat.le_of_ble_eq_true rfl)) dL_law_850 ⟨Nat.le_of_ble_eq_true rfl, Nat.le_of_ble_eq_true rfl⟩) hS (fun q _ h => hFc q h) hFc (fun r_ u t_ H1 locs ht hvm hw hB hz1 hk1 hS => ?_)
    obtain ⟨hP, hD⟩ := va_join (wr := []) (w1 := []) hP hD [56, 57, 58, 59, 60, 61, 62, 63] [] rfl rfl (by decide) (by decide) hk1 hFc va_P0 va_D0
    generalize H1 = H at hP hS ⊢
    have hP : va_P (dC, dI) vwCl ([]) H := hP
    have hD : va_D A ([]) := hD
    rcases hw with ⟨c3317_, rfl⟩ | ⟨c3318_, c3319_, rfl⟩ | ⟨c3320_, c3321_, c3322_, c3323_, rfl⟩ | ⟨c3324_, c3325_, rfl⟩ | ⟨c3326_, c3327_, c3328_, c3329_, c3330_, rfl⟩ | ⟨c3331_, c3332_, c3333_, rfl⟩ | ⟨c3334_, c3335_, c3336_, c3337_, c3338_, c3339_, rfl⟩ | ⟨c3340_, c3341_, c3342_, c3343_, rfl⟩ | ⟨c3344_, c3345_, c3346_, c3347_, c3348_, c3349_, c3350_, rfl⟩ | ⟨c3351_, c3352_, c3353_, c3354_, c3355_, rfl⟩ | ⟨c3356_, c3357_, c3358_, c3359_, c3360_, c3361_, c3362_, c3363_, rfl⟩ | ⟨c3364_, c3365_, c3366_, c3367_, c3368_, c3369_, rfl⟩ | ⟨c3370_, c3371_, c3372_, c3373_, c3374_, c3375_, c3376_, c3377_, c3378_, rfl⟩ | ⟨c3379_, c3380_, c3381_, c3382_, c3383_, c3384_, c3385_, rfl⟩ | ⟨c3386_, c3387_, c3388_, c3389_, c3390_, c3391_, c3392_, c3393_, c3394_, c3395_, rfl⟩ | ⟨c3396_, c3397_, c3398_, c3399_, c3400_, c3401_, c3402_, c3403_, rfl⟩ | ⟨c3404_, c3405_, c3406_, c3407_, c3408_, c3409_, c3410_, c3411_, c3412_, c3413_, c3414_, rfl⟩ | ⟨c3415_, c3416_, c3417_, c3418_, c3419_, c3420_, c3421_, c3422_, c3423_, rfl⟩ | ⟨c3424_, c3425_, c3426_, c3427_, c3428_, c3429_, c3430_, c3431_, c3432_, c3433_, rfl⟩ | ⟨c3434_, c3435_, c3436_, c3437_, c3438_, c3439_, c3440_, c3441_, rfl⟩
    · skip
      exfalso
      have z0_ := tz_nlt_r c1402_ (show (0 : Int32).toInt = 0 by decide)
      have z1_ := tz_le_r c1403_ (show (4 : Int32).toInt = 4 by decide)
      have z2_ := tz_neq_r c1412_ (show (0 : Int32).toInt = 0 by decide)
      have z3_ := tz_lt_r c3317_ (show (0 : Int32).toInt = 0 by decide)
      omega
    · skip
      exfalso
      have z0_ := tz_nlt_r c1402_ (show (0 : Int32).toInt = 0 by decide)
      have z1_ := tz_le_r c1403_ (show (4 : Int32).toInt = 4 by decide)
      have z2_ := tz_neq_r c1412_ (show (0 : Int32).toInt = 0 by decide)
      have z3_ := tz_lt_l c3319_ (show (4 : Int32).toInt = 4 by decide)
      omega
    · skip
      exfalso
      have z0_ := tz_nlt_r c1404_ (show (0 : Int32).toInt = 0 by decide)
      have z1_ := tz_nle_l c1405_ (show (65536 : Int32).toInt = 65536 by decide)
      have z2_ := tz_lt_r c3322_ (show (0 : Int32).toInt = 0 by decide)
      omega
    · skip
      exfalso
      have z0_ := tz_nlt_r c1404_ (show (0 : Int32).toInt = 0 by decide)
      have z1_ := tz_nle_l c1405_ (show (65536 : Int32).toInt = 65536 by decide)
      have z2_ := tz_lt_r c3324_ (show (0 : Int32).toInt = 0 by decide)
      omega
    · skip
      exfalso
      have z0_ := tz_nlt_r c1404_ (show (0 : Int32).toInt = 0 by decide)
      have z1_ := tz_nle_l c1405_ (show (65536 : Int32).toInt = 65536 by decide)
      have z2_ := tz_le_l c3329_ (show (65536 : Int32).toInt = 65536 by decide)
      omega
    · skip
      exfalso
      have z0_ := tz_nlt_r c1404_ (show (0 : Int32).toInt = 0 by decide)
      have z1_ := tz_nle_l c1405_ (show (65536 : Int32).toInt = 65536 by decide)
      have z2_ := tz_le_l c3332_ (show (65536 : Int32).toInt = 65536 by decide)
      omega
    · skip
      exfalso
      have z0_ := tz_nlt_r c1406_ (show (0 : Int32).toInt = 0 by decide)
      have z1_ := tz_nle_l c1407_ (show (65536 : Int32).toInt = 65536 by decide)
      have z2_ := tz_lt_r c3338_ (show (0 : Int32).toInt = 0 by decide)
      omega
    · skip
      exfalso
      have z0_ := tz_nlt_r c1406_ (show (0 : Int32).toInt = 0 by decide)
      have z1_ := tz_nle_l c1407_ (show (65536 : Int32).toInt = 65536 by decide)
      have z2_ := tz_lt_r c3342_ (show (0 : Int32).toInt = 0 by decide)
      omega
    · skip
      exfalso
      have z0_ := tz_nlt_r c1406_ (show (0 : Int32).toInt = 0 by decide)
      have z1_ := tz_nle_l c1407_ (show (65536 : Int32).toInt = 65536 by decide)
      have z2_ := tz_le_l c3349_ (show (65536 : Int32).toInt = 65536 by decide)
      omega
    · skip
      exfalso
      have z0_ := tz_nlt_r c1406_ (show (0 : Int32).toInt = 0 by decide)
      have z1_ := tz_nle_l c1407_ (show (65536 : Int32).toInt = 65536 by decide)
      have z2_ := tz_le_l c3354_ (show (65536 : Int32).toInt = 65536 by decide)
      omega
    · skip
      exfalso
      have z0_ := tz_nlt_r c1408_ (show (0 : Int32).toInt = 0 by decide)
      have z1_ := tz_nle_l c1409_ (show (65536 : Int32).toInt = 65536 by decide)
      have z2_ := tz_lt_r c3362_ (show (0 : Int32).toInt = 0 by decide)
      omega
    · skip
      exfalso
      have z0_ := tz_nlt_r c1408_ (show (0 : Int32).toInt = 0 by decide)
      have z1_ := tz_nle_l c1409_ (show (65536 : Int32).toInt = 65536 by decide)
      have z2_ := tz_lt_r c3368_ (show (0 : Int32).toInt = 0 by decide)
      omega
    · skip
      exfalso
      have z0_ := tz_nlt_r c1408_ (show (0 : Int32).toInt = 0 by decide)
      have z1_ := tz_nle_l c1409_ (show (65536 : Int32).toInt = 65536 by decide)
      have z2_ := tz_le_l c3377_ (show (65536 : Int32).toInt = 65536 by decide)
      omega
    · skip
      exfalso
      have z0_ := tz_nlt_r c1408_ (show (0 : Int32).toInt = 0 by decide)
      have z1_ := tz_nle_l c1409_ (show (65536 : Int32).toInt = 65536 by decide)
      have z2_ := tz_le_l c3384_ (show (65536 : Int32).toInt = 65536 by decide)
      omega
    · skip
      exfalso
      have z0_ := tz_nlt_r c1410_ (show (0 : Int32).toInt = 0 by decide)
      have z1_ := tz_le_l c1411_ (show (1 : Int32).toInt = 1 by decide)
      have z2_ := tz_lt_r c3394_ (show (0 : Int32).toInt = 0 by decide)
      omega
    · skip
      exfalso
      have z0_ := tz_nlt_r c1410_ (show (0 : Int32).toInt = 0 by decide)
      have z1_ := tz_le_l c1411_ (show (1 : Int32).toInt = 1 by decide)
      have z2_ := tz_lt_r c3402_ (show (0 : Int32).toInt = 0 by decide)
      omega
    · skip
      refine lv_icmp_eq (tgt := 983) hx hb dL_law_853 (by decide) (fun _ => ?_) (fun c9_ => absurd (by decide) c9_)
      refine lv_iinc (v := 6) (lv' := [(3, .int 6), (2, .ref (b 0)), (1, .ref (a 0)), (0, .ref sc)]) hx hb dL_law_983 hl (k := 0) rfl (by decide) (by decide) rfl (fun ls hl => ?_)
      refine lv_goto (tgt := 18) hx hb dL_law_986 (by decide) ?_
      refine lv_iload_n hx hb dL_law_18 rfl (lv_at hl 0 rfl) ?_
      refine lv_aload_n hx hb dL_law_19 rfl (lv_at hl 3 rfl) ?_
      refine va_slen hx hb hX hbl hbA hS dL_law_20 ?_
      refine tk_i 6 (by decide) ?_
      refine lv_bipush (v := 6) hx hb dL_law_21 (by decide) ?_
      refine lv_isub hx hb dL_law_23 ?_
      refine tk_i 0 (by decide) ?_
      refine lv_icmp_gt (tgt := 989) hx hb dL_law_24 (by decide) (fun _ => ?_) (fun c9_ => absurd (by decide) c9_)
      refine lv_iconst (v := 1) hx hb dL_law_989 (by decide) ?_
      refine va_forget (fun q hq => by have h := hS.2.2 q hq; rw [hAe] at h; exact h) ?_
      refine W.widen (k := 600000) (n := 7302249) (Nat.le_of_ble_eq_true rfl) (Nat.le_of_ble_eq_true rfl) ?_
      exact lw_ret hx hb hr hlocks dL_law_990
    · skip
      exfalso
      have z0_ := tz_nlt_r c1402_ (show (0 : Int32).toInt = 0 by decide)
      have z1_ := tz_le_r c1403_ (show (4 : Int32).toInt = 4 by decide)
      have z2_ := tz_neq_r c1412_ (show (0 : Int32).toInt = 0 by decide)
      have z3_ := tz_eq_r c3423_ (show (0 : Int32).toInt = 0 by decide)
      omega
    · skip
      exfalso
      have z0_ := tz_nlt_r c1410_ (show (0 : Int32).toInt = 0 by decide)
      have z1_ := tz_le_l c1411_ (show (1 : Int32).toInt = 1 by decide)
      have z2_ := tz_eq_r c3432_ (show (0 : Int32).toInt = 0 by decide)
      omega
    · skip
      exfalso
      have z0_ := tz_nlt_r c1410_ (show (0 : Int32).toInt = 0 by decide)
      have z1_ := tz_le_l c1411_ (show (1 : Int32).toInt = 1 by decide)
      have z2_ := tz_eq_r c3440_ (show (0 : Int32).toInt = 0 by decide)
      omega
  · skip
    subst c1421_
    refine lv_aload_n hx hb dL_law_824 rfl (lv_at hl 1 rfl) ?_
    refine lv_aload_n hx hb dL_law_825 rfl (lv_at hl 3 rfl) ?_
    refine lv_iload_n hx hb dL_law_826 rfl (lv_at hl 0 rfl) ?_
    refine lv_iconst (v := 1) hx hb dL_law_827 (by decide) ?_
    refine lv_iadd hx hb dL_law_828 ?_
    refine tk_i 1 (by decide) ?_
    refine va_sld hx hb hX hbl hbA hS (show ¬ ((1 : Int32) < 0 ∨ 6 ≤ Int32.toNatClampNeg 1) by decide) dL_law_829 ?_
    refine tk_i x1 ex1 ?_
    refine lv_aload_n hx hb dL_law_830 rfl (lv_at hl 3 rfl) ?_
    refine lv_iload_n hx hb dL_law_831 rfl (lv_at hl 0 rfl) ?_
    refine lv_iconst (v := 2) hx hb dL_law_832 (by decide) ?_
    refine lv_iadd hx hb dL_law_833 ?_
    refine tk_i 2 (by decide) ?_
    refine va_sld hx hb hX hbl hbA hS (show ¬ ((2 : Int32) < 0 ∨ 6 ≤ Int32.toNatClampNeg 2) by decide) dL_law_834 ?_
    refine tk_i x2 ex2 ?_
    refine lv_aload_n hx hb dL_law_835 rfl (lv_at hl 3 rfl) ?_
    refine lv_iload_n hx hb dL_law_836 rfl (lv_at hl 0 rfl) ?_
    refine lv_iconst (v := 3) hx hb dL_law_837 (by decide) ?_
    refine lv_iadd hx hb dL_law_838 ?_
    refine tk_i 3 (by decide) ?_
    refine va_sld hx hb hX hbl hbA hS (show ¬ ((3 : Int32) < 0 ∨ 6 ≤ Int32.toNatClampNeg 3) by decide) dL_law_839 ?_
    refine tk_i x3 ex3 ?_
    refine lv_aload_n hx hb dL_law_840 rfl (lv_at hl 3 rfl) ?_
    refine lv_iload_n hx hb dL_law_841 rfl (lv_at hl 0 rfl) ?_
    refine lv_iconst (v := 4) hx hb dL_law_842 (by decide) ?_
    refine lv_iadd hx hb dL_law_843 ?_
    refine tk_i 4 (by decide) ?_
    refine va_sld hx hb hX hbl hbA hS (show ¬ ((4 : Int32) < 0 ∨ 6 ≤ Int32.toNatClampNeg 4) by decide) dL_law_844 ?_
    refine tk_i x4 ex4 ?_
    refine lv_aload_n hx hb dL_law_845 rfl (lv_at hl 3 rfl) ?_
    refine lv_iload_n hx hb dL_law_846 rfl (lv_at hl 0 rfl) ?_
    refine lv_iconst (v := 5) hx hb dL_law_847 (by decide) ?_
    refine lv_iadd hx hb dL_law_848 ?_
    refine tk_i 5 (by decide) ?_
    refine va_sld hx hb hX hbl hbA hS (show ¬ ((5 : Int32) < 0 ∨ 6 ≤ Int32.toNatClampNeg 5) by decide) dL_law_849 ?_
    refine tk_i 0 ex5 ?_
    have hPc : va_P (dC, dI) vwCl (mw b cy) _ := hP.sub [56, 57, 58, 59, 60, 61, 62, 63] rfl
    have hDc := hD.sub (ws' := mw b cy) [56, 57, 58, 59, 60, 61, 62, 63] (by decide) rfl
    have hFc := va_free (wc := mw b cy) hD hS hA [56, 57, 58, 59, 60, 61, 62, 63] rfl
    refine va_calli (va_runV (As := [.int x1, .int x2, .int x3, .int x4, .int 0]) (rest := [.int (-2)]) ⟨hx, hb, hml, hown, hts⟩ (c_X12_tries l dC dI cy b _ x1 x2 x3 x4 0) (cwV 5 hts g_L_law_X12_tries_114 rfl rfl rfl (by decide +kernel) ⟨Nat.le_of_ble_eq_true rfl, Nat.le_of_ble_eq_true rfl⟩) (pv_ps hC hPc hDc (ci := 12) (q0 := 0) rfl rfl) rfl rfl hl.1 rfl (lv_room (Nat.le_of_ble_eq_true rfl)) dL_law_850 ⟨Nat.le_of_ble_eq_true rfl, Nat.le_of_ble_eq_true rfl⟩) hS (fun q _ h => hFc q h) hFc (fun r_ u t_ H1 locs ht hvm hw hB hz1 hk1 hS => ?_)
    obtain ⟨hP, hD⟩ := va_join (wr := []) (w1 := []) hP hD [56, 57, 58, 59, 60, 61, 62, 63] [] rfl rfl (by decide) (by decide) hk1 hFc va_P0 va_D0
    generalize H1 = H at hP hS ⊢
    have hP : va_P (dC, dI) vwCl ([]) H := hP
    have hD : va_D A ([]) := hD
    rcases hw with ⟨c3442_, rfl⟩ | ⟨-, c3444_, rfl⟩ | ⟨-, -, c3447_, c3448_, rfl⟩ | ⟨c3449_, -, rfl⟩ | ⟨-, -, c3453_, c3454_, c3455_, rfl⟩ | ⟨c3456_, c3457_, -, rfl⟩ | ⟨-, -, c3461_, c3462_, c3463_, c3464_, rfl⟩ | ⟨c3465_, c3466_, c3467_, -, rfl⟩ | ⟨-, -, c3471_, c3472_, c3473_, c3474_, c3475_, rfl⟩ | ⟨c3476_, c3477_, c3478_, c3479_, -, rfl⟩ | ⟨-, -, c3483_, c3484_, c3485_, c3486_, c3487_, c3488_, rfl⟩ | ⟨c3489_, c3490_, c3491_, c3492_, c3493_, -, rfl⟩ | ⟨-, -, c3497_, c3498_, c3499_, c3500_, c3501_, c3502_, c3503_, rfl⟩ | ⟨c3504_, c3505_, c3506_, c3507_, c3508_, c3509_, -, rfl⟩ | ⟨-, -, c3513_, c3514_, c3515_, c3516_, c3517_, c3518_, c3519_, c3520_, rfl⟩ | ⟨c3521_, c3522_, c3523_, c3524_, c3525_, c3526_, c3527_, -, rfl⟩ | ⟨-, -, c3531_, c3532_, c3533_, c3534_, c3535_, c3536_, c3537_, c3538_, c3539_, rfl⟩ | ⟨c3540_, c3541_, c3542_, c3543_, c3544_, c3545_, c3546_, c3547_, -, rfl⟩ | ⟨-, -, c3551_, c3552_, c3553_, c3554_, c3555_, c3556_, c3557_, c3558_, rfl⟩ | ⟨c3559_, c3560_, c3561_, c3562_, c3563_, c3564_, c3565_, -, rfl⟩
    · skip
      exact absurd c3442_ (by decide)
    · skip
      exact absurd c3444_ (by decide)
    · skip
      exact absurd c3448_ (by decide)
    · skip
      exfalso
      have z0_ := tz_nlt_r c1413_ (show (0 : Int32).toInt = 0 by decide)
      have z1_ := tz_nle_l c1414_ (show (65536 : Int32).toInt = 65536 by decide)
      have z2_ := tz_lt_r c3449_ (show (0 : Int32).toInt = 0 by decide)
      omega
    · skip
      exact absurd c3455_ (by decide)
    · skip
      exfalso
      have z0_ := tz_nlt_r c1413_ (show (0 : Int32).toInt = 0 by decide)
      have z1_ := tz_nle_l c1414_ (show (65536 : Int32).toInt = 65536 by decide)
      have z2_ := tz_le_l c3457_ (show (65536 : Int32).toInt = 65536 by decide)
      omega
    · skip
      exact absurd c3464_ (by decide)
    · skip
      exfalso
      have z0_ := tz_nlt_r c1415_ (show (0 : Int32).toInt = 0 by decide)
      have z1_ := tz_nle_l c1416_ (show (65536 : Int32).toInt = 65536 by decide)
      have z2_ := tz_lt_r c3467_ (show (0 : Int32).toInt = 0 by decide)
      omega
    · skip
      exact absurd c3475_ (by decide)
    · skip
      exfalso
      have z0_ := tz_nlt_r c1415_ (show (0 : Int32).toInt = 0 by decide)
      have z1_ := tz_nle_l c1416_ (show (65536 : Int32).toInt = 65536 by decide)
      have z2_ := tz_le_l c3479_ (show (65536 : Int32).toInt = 65536 by decide)
      omega
    · skip
      exact absurd c3488_ (by decide)
    · skip
      exfalso
      have z0_ := tz_nlt_r c1417_ (show (0 : Int32).toInt = 0 by decide)
      have z1_ := tz_nle_l c1418_ (show (65536 : Int32).toInt = 65536 by decide)
      have z2_ := tz_lt_r c3493_ (show (0 : Int32).toInt = 0 by decide)
      omega
    · skip
      exact absurd c3503_ (by decide)
    · skip
      exfalso
      have z0_ := tz_nlt_r c1417_ (show (0 : Int32).toInt = 0 by decide)
      have z1_ := tz_nle_l c1418_ (show (65536 : Int32).toInt = 65536 by decide)
      have z2_ := tz_le_l c3509_ (show (65536 : Int32).toInt = 65536 by decide)
      omega
    · skip
      exact absurd c3520_ (by decide)
    · skip
      exfalso
      have z0_ := tz_nlt_r c1419_ (show (0 : Int32).toInt = 0 by decide)
      have z1_ := tz_le_l c1420_ (show (1 : Int32).toInt = 1 by decide)
      have z2_ := tz_lt_r c3527_ (show (0 : Int32).toInt = 0 by decide)
      omega
    · skip
      exact absurd c3539_ (by decide)
    · skip
      refine lv_icmp_eq (tgt := 983) hx hb dL_law_853 (by decide) (fun _ => ?_) (fun c9_ => absurd (by decide) c9_)
      refine lv_iinc (v := 6) (lv' := [(3, .int 6), (2, .ref (b 0)), (1, .ref (a 0)), (0, .ref sc)]) hx hb dL_law_983 hl (k := 0) rfl (by decide) (by decide) rfl (fun ls hl => ?_)
      refine lv_goto (tgt := 18) hx hb dL_law_986 (by decide) ?_
      refine lv_iload_n hx hb dL_law_18 rfl (lv_at hl 0 rfl) ?_
      refine lv_aload_n hx hb dL_law_19 rfl (lv_at hl 3 rfl) ?_
      refine va_slen hx hb hX hbl hbA hS dL_law_20 ?_
      refine tk_i 6 (by decide) ?_
      refine lv_bipush (v := 6) hx hb dL_law_21 (by decide) ?_
      refine lv_isub hx hb dL_law_23 ?_
      refine tk_i 0 (by decide) ?_
      refine lv_icmp_gt (tgt := 989) hx hb dL_law_24 (by decide) (fun _ => ?_) (fun c9_ => absurd (by decide) c9_)
      refine lv_iconst (v := 1) hx hb dL_law_989 (by decide) ?_
      refine va_forget (fun q hq => by have h := hS.2.2 q hq; rw [hAe] at h; exact h) ?_
      refine W.widen (k := 600000) (n := 7302249) (Nat.le_of_ble_eq_true rfl) (Nat.le_of_ble_eq_true rfl) ?_
      exact lw_ret hx hb hr hlocks dL_law_990
    · skip
      exact absurd c3558_ (by decide)
    · skip
      exfalso
      have z0_ := tz_nlt_r c1419_ (show (0 : Int32).toInt = 0 by decide)
      have z1_ := tz_le_l c1420_ (show (1 : Int32).toInt = 1 by decide)
      have z2_ := tz_eq_r c3565_ (show (0 : Int32).toInt = 0 by decide)
      omega
  · skip
    subst c1430_
    refine lv_aload_n hx hb dL_law_824 rfl (lv_at hl 1 rfl) ?_
    refine lv_aload_n hx hb dL_law_825 rfl (lv_at hl 3 rfl) ?_
    refine lv_iload_n hx hb dL_law_826 rfl (lv_at hl 0 rfl) ?_
    refine lv_iconst (v := 1) hx hb dL_law_827 (by decide) ?_
    refine lv_iadd hx hb dL_law_828 ?_
    refine tk_i 1 (by decide) ?_
    refine va_sld hx hb hX hbl hbA hS (show ¬ ((1 : Int32) < 0 ∨ 6 ≤ Int32.toNatClampNeg 1) by decide) dL_law_829 ?_
    refine tk_i 0 ex1 ?_
    refine lv_aload_n hx hb dL_law_830 rfl (lv_at hl 3 rfl) ?_
    refine lv_iload_n hx hb dL_law_831 rfl (lv_at hl 0 rfl) ?_
    refine lv_iconst (v := 2) hx hb dL_law_832 (by decide) ?_
    refine lv_iadd hx hb dL_law_833 ?_
    refine tk_i 2 (by decide) ?_
    refine va_sld hx hb hX hbl hbA hS (show ¬ ((2 : Int32) < 0 ∨ 6 ≤ Int32.toNatClampNeg 2) by decide) dL_law_834 ?_
    refine tk_i x2 ex2 ?_
    refine lv_aload_n hx hb dL_law_835 rfl (lv_at hl 3 rfl) ?_
    refine lv_iload_n hx hb dL_law_836 rfl (lv_at hl 0 rfl) ?_
    refine lv_iconst (v := 3) hx hb dL_law_837 (by decide) ?_
    refine lv_iadd hx hb dL_law_838 ?_
    refine tk_i 3 (by decide) ?_
    refine va_sld hx hb hX hbl hbA hS (show ¬ ((3 : Int32) < 0 ∨ 6 ≤ Int32.toNatClampNeg 3) by decide) dL_law_839 ?_
    refine tk_i x3 ex3 ?_
    refine lv_aload_n hx hb dL_law_840 rfl (lv_at hl 3 rfl) ?_
    refine lv_iload_n hx hb dL_law_841 rfl (lv_at hl 0 rfl) ?_
    refine lv_iconst (v := 4) hx hb dL_law_842 (by decide) ?_
    refine lv_iadd hx hb dL_law_843 ?_
    refine tk_i 4 (by decide) ?_
    refine va_sld hx hb hX hbl hbA hS (show ¬ ((4 : Int32) < 0 ∨ 6 ≤ Int32.toNatClampNeg 4) by decide) dL_law_844 ?_
    refine tk_i x4 ex4 ?_
    refine lv_aload_n hx hb dL_law_845 rfl (lv_at hl 3 rfl) ?_
    refine lv_iload_n hx hb dL_law_846 rfl (lv_at hl 0 rfl) ?_
    refine lv_iconst (v := 5) hx hb dL_law_847 (by decide) ?_
    refine lv_iadd hx hb dL_law_848 ?_
    refine tk_i 5 (by decide) ?_
    refine va_sld hx hb hX hbl hbA hS (show ¬ ((5 : Int32) < 0 ∨ 6 ≤ Int32.toNatClampNeg 5) by decide) dL_law_849 ?_
    refine tk_i x5 ex5 ?_
    have hPc : va_P (dC, dI) vwCl (mw b cy) _ := hP.sub [56, 57, 58, 59, 60, 61, 62, 63] rfl
    have hDc := hD.sub (ws' := mw b cy) [56, 57, 58, 59, 60, 61, 62, 63] (by decide) rfl
    have hFc := va_free (wc := mw b cy) hD hS hA [56, 57, 58, 59, 60, 61, 62, 63] rfl
    refine va_calli (va_runV (As := [.int 0, .int x2, .int x3, .int x4, .int x5]) (rest := [.int 0]) ⟨hx, hb, hml, hown, hts⟩ (c_X12_tries l dC dI cy b _ 0 x2 x3 x4 x5) (cwV 5 hts g_L_law_X12_tries_114 rfl rfl rfl (by decide +kernel) ⟨Nat.le_of_ble_eq_true rfl, Nat.le_of_ble_eq_true rfl⟩) (pv_ps hC hPc hDc (ci := 12) (q0 := 0) rfl rfl) rfl rfl hl.1 rfl (lv_room (Nat.le_of_ble_eq_true rfl)) dL_law_850 ⟨Nat.le_of_ble_eq_true rfl, Nat.le_of_ble_eq_true rfl⟩) hS (fun q _ h => hFc q h) hFc (fun r_ u t_ H1 locs ht hvm hw hB hz1 hk1 hS => ?_)
    obtain ⟨hP, hD⟩ := va_join (wr := []) (w1 := []) hP hD [56, 57, 58, 59, 60, 61, 62, 63] [] rfl rfl (by decide) (by decide) hk1 hFc va_P0 va_D0
    generalize H1 = H at hP hS ⊢
    have hP : va_P (dC, dI) vwCl ([]) H := hP
    have hD : va_D A ([]) := hD
    rcases hw with ⟨c3567_, rfl⟩ | ⟨c3568_, c3569_, rfl⟩ | ⟨c3570_, c3571_, c3572_, c3573_, rfl⟩ | ⟨c3574_, c3575_, rfl⟩ | ⟨c3576_, c3577_, c3578_, c3579_, c3580_, rfl⟩ | ⟨c3581_, c3582_, c3583_, rfl⟩ | ⟨c3584_, c3585_, c3586_, c3587_, c3588_, c3589_, rfl⟩ | ⟨c3590_, c3591_, c3592_, c3593_, rfl⟩ | ⟨c3594_, c3595_, c3596_, c3597_, c3598_, c3599_, c3600_, rfl⟩ | ⟨c3601_, c3602_, c3603_, c3604_, c3605_, rfl⟩ | ⟨c3606_, c3607_, c3608_, c3609_, c3610_, c3611_, c3612_, c3613_, rfl⟩ | ⟨c3614_, c3615_, c3616_, c3617_, c3618_, c3619_, rfl⟩ | ⟨c3620_, c3621_, c3622_, c3623_, c3624_, c3625_, c3626_, c3627_, c3628_, rfl⟩ | ⟨c3629_, c3630_, c3631_, c3632_, c3633_, c3634_, c3635_, rfl⟩ | ⟨c3636_, c3637_, c3638_, c3639_, c3640_, c3641_, c3642_, c3643_, c3644_, c3645_, rfl⟩ | ⟨c3646_, c3647_, c3648_, c3649_, c3650_, c3651_, c3652_, c3653_, rfl⟩ | ⟨c3654_, c3655_, c3656_, c3657_, c3658_, c3659_, c3660_, c3661_, -, c3663_, c3664_, rfl⟩ | ⟨c3665_, c3666_, c3667_, c3668_, c3669_, c3670_, -, c3672_, c3673_, rfl⟩ | ⟨c3674_, c3675_, c3676_, c3677_, c3678_, c3679_, c3680_, c3681_, -, c3683_, rfl⟩ | ⟨c3684_, c3685_, c3686_, c3687_, c3688_, c3689_, -, c3691_, rfl⟩
    · skip
      exfalso
      have z0_ := tz_nlt_r c1422_ (show (0 : Int32).toInt = 0 by decide)
      have z1_ := tz_le_r c1423_ (show (4 : Int32).toInt = 4 by decide)
      have z2_ := tz_neq_r c1431_ (show (0 : Int32).toInt = 0 by decide)
      have z3_ := tz_lt_r c3567_ (show (0 : Int32).toInt = 0 by decide)
      omega
    · skip
      exfalso
      have z0_ := tz_nlt_r c1422_ (show (0 : Int32).toInt = 0 by decide)
      have z1_ := tz_le_r c1423_ (show (4 : Int32).toInt = 4 by decide)
      have z2_ := tz_neq_r c1431_ (show (0 : Int32).toInt = 0 by decide)
      have z3_ := tz_lt_l c3569_ (show (4 : Int32).toInt = 4 by decide)
      omega
    · skip
      exfalso
      have z0_ := tz_nlt_r c1424_ (show (0 : Int32).toInt = 0 by decide)
      have z1_ := tz_nle_l c1425_ (show (65536 : Int32).toInt = 65536 by decide)
      have z2_ := tz_lt_r c3572_ (show (0 : Int32).toInt = 0 by decide)
      omega
    · skip
      exfalso
      have z0_ := tz_nlt_r c1424_ (show (0 : Int32).toInt = 0 by decide)
      have z1_ := tz_nle_l c1425_ (show (65536 : Int32).toInt = 65536 by decide)
      have z2_ := tz_lt_r c3574_ (show (0 : Int32).toInt = 0 by decide)
      omega
    · skip
      exfalso
      have z0_ := tz_nlt_r c1424_ (show (0 : Int32).toInt = 0 by decide)
      have z1_ := tz_nle_l c1425_ (show (65536 : Int32).toInt = 65536 by decide)
      have z2_ := tz_le_l c3579_ (show (65536 : Int32).toInt = 65536 by decide)
      omega
    · skip
      exfalso
      have z0_ := tz_nlt_r c1424_ (show (0 : Int32).toInt = 0 by decide)
      have z1_ := tz_nle_l c1425_ (show (65536 : Int32).toInt = 65536 by decide)
      have z2_ := tz_le_l c3582_ (show (65536 : Int32).toInt = 65536 by decide)
      omega
    · skip
      exfalso
      have z0_ := tz_nlt_r c1426_ (show (0 : Int32).toInt = 0 by decide)
      have z1_ := tz_nle_l c1427_ (show (65536 : Int32).toInt = 65536 by decide)
      have z2_ := tz_lt_r c3588_ (show (0 : Int32).toInt = 0 by decide)
      omega
    · skip
      exfalso
      have z0_ := tz_nlt_r c1426_ (show (0 : Int32).toInt = 0 by decide)
      have z1_ := tz_nle_l c1427_ (show (65536 : Int32).toInt = 65536 by decide)
      have z2_ := tz_lt_r c3592_ (show (0 : Int32).toInt = 0 by decide)
      omega
    · skip
      exfalso
      have z0_ := tz_nlt_r c1426_ (show (0 : Int32).toInt = 0 by decide)
      have z1_ := tz_nle_l c1427_ (show (65536 : Int32).toInt = 65536 by decide)
      have z2_ := tz_le_l c3599_ (show (65536 : Int32).toInt = 65536 by decide)
      omega
    · skip
      exfalso
      have z0_ := tz_nlt_r c1426_ (show (0 : Int32).toInt = 0 by decide)
      have z1_ := tz_nle_l c1427_ (show (65536 : Int32).toInt = 65536 by decide)
      have z2_ := tz_le_l c3604_ (show (65536 : Int32).toInt = 65536 by decide)
      omega
    · skip
      exfalso
      have z0_ := tz_nlt_r c1428_ (show (0 : Int32).toInt = 0 by decide)
      have z1_ := tz_nle_l c1429_ (show (65536 : Int32).toInt = 65536 by decide)
      have z2_ := tz_lt_r c3612_ (show (0 : Int32).toInt = 0 by decide)
      omega
    · skip
      exfalso
      have z0_ := tz_nlt_r c1428_ (show (0 : Int32).toInt = 0 by decide)
      have z1_ := tz_nle_l c1429_ (show (65536 : Int32).toInt = 65536 by decide)
      have z2_ := tz_lt_r c3618_ (show (0 : Int32).toInt = 0 by decide)
      omega
    · skip
      exfalso
      have z0_ := tz_nlt_r c1428_ (show (0 : Int32).toInt = 0 by decide)
      have z1_ := tz_nle_l c1429_ (show (65536 : Int32).toInt = 65536 by decide)
      have z2_ := tz_le_l c3627_ (show (65536 : Int32).toInt = 65536 by decide)
      omega
    · skip
      exfalso
      have z0_ := tz_nlt_r c1428_ (show (0 : Int32).toInt = 0 by decide)
      have z1_ := tz_nle_l c1429_ (show (65536 : Int32).toInt = 65536 by decide)
      have z2_ := tz_le_l c3634_ (show (65536 : Int32).toInt = 65536 by decide)
      omega
    · skip
      exact absurd c3644_ (by decide)
    · skip
      exact absurd c3652_ (by decide)
    · skip
      exact absurd c3663_ (by decide)
    · skip
      exact absurd c3672_ (by decide)
    · skip
      refine lv_icmp_eq (tgt := 983) hx hb dL_law_853 (by decide) (fun _ => ?_) (fun c9_ => absurd (by decide) c9_)
      refine lv_iinc (v := 6) (lv' := [(3, .int 6), (2, .ref (b 0)), (1, .ref (a 0)), (0, .ref sc)]) hx hb dL_law_983 hl (k := 0) rfl (by decide) (by decide) rfl (fun ls hl => ?_)
      refine lv_goto (tgt := 18) hx hb dL_law_986 (by decide) ?_
      refine lv_iload_n hx hb dL_law_18 rfl (lv_at hl 0 rfl) ?_
      refine lv_aload_n hx hb dL_law_19 rfl (lv_at hl 3 rfl) ?_
      refine va_slen hx hb hX hbl hbA hS dL_law_20 ?_
      refine tk_i 6 (by decide) ?_
      refine lv_bipush (v := 6) hx hb dL_law_21 (by decide) ?_
      refine lv_isub hx hb dL_law_23 ?_
      refine tk_i 0 (by decide) ?_
      refine lv_icmp_gt (tgt := 989) hx hb dL_law_24 (by decide) (fun _ => ?_) (fun c9_ => absurd (by decide) c9_)
      refine lv_iconst (v := 1) hx hb dL_law_989 (by decide) ?_
      refine va_forget (fun q hq => by have h := hS.2.2 q hq; rw [hAe] at h; exact h) ?_
      refine W.widen (k := 600000) (n := 7302249) (Nat.le_of_ble_eq_true rfl) (Nat.le_of_ble_eq_true rfl) ?_
      exact lw_ret hx hb hr hlocks dL_law_990
    · skip
      exfalso
      have z0_ := tz_nlt_r c1422_ (show (0 : Int32).toInt = 0 by decide)
      have z1_ := tz_le_r c1423_ (show (4 : Int32).toInt = 4 by decide)
      have z2_ := tz_neq_r c1431_ (show (0 : Int32).toInt = 0 by decide)
      have z3_ := tz_eq_r c3691_ (show (0 : Int32).toInt = 0 by decide)
      omega
  · skip
    subst c1438_
    subst c1439_
    refine lv_aload_n hx hb dL_law_824 rfl (lv_at hl 1 rfl) ?_
    refine lv_aload_n hx hb dL_law_825 rfl (lv_at hl 3 rfl) ?_
    refine lv_iload_n hx hb dL_law_826 rfl (lv_at hl 0 rfl) ?_
    refine lv_iconst (v := 1) hx hb dL_law_827 (by decide) ?_
    refine lv_iadd hx hb dL_law_828 ?_
    refine tk_i 1 (by decide) ?_
    refine va_sld hx hb hX hbl hbA hS (show ¬ ((1 : Int32) < 0 ∨ 6 ≤ Int32.toNatClampNeg 1) by decide) dL_law_829 ?_
    refine tk_i 0 ex1 ?_
    refine lv_aload_n hx hb dL_law_830 rfl (lv_at hl 3 rfl) ?_
    refine lv_iload_n hx hb dL_law_831 rfl (lv_at hl 0 rfl) ?_
    refine lv_iconst (v := 2) hx hb dL_law_832 (by decide) ?_
    refine lv_iadd hx hb dL_law_833 ?_
    refine tk_i 2 (by decide) ?_
    refine va_sld hx hb hX hbl hbA hS (show ¬ ((2 : Int32) < 0 ∨ 6 ≤ Int32.toNatClampNeg 2) by decide) dL_law_834 ?_
    refine tk_i x2 ex2 ?_
    refine lv_aload_n hx hb dL_law_835 rfl (lv_at hl 3 rfl) ?_
    refine lv_iload_n hx hb dL_law_836 rfl (lv_at hl 0 rfl) ?_
    refine lv_iconst (v := 3) hx hb dL_law_837 (by decide) ?_
    refine lv_iadd hx hb dL_law_838 ?_
    refine tk_i 3 (by decide) ?_
    refine va_sld hx hb hX hbl hbA hS (show ¬ ((3 : Int32) < 0 ∨ 6 ≤ Int32.toNatClampNeg 3) by decide) dL_law_839 ?_
    refine tk_i x3 ex3 ?_
    refine lv_aload_n hx hb dL_law_840 rfl (lv_at hl 3 rfl) ?_
    refine lv_iload_n hx hb dL_law_841 rfl (lv_at hl 0 rfl) ?_
    refine lv_iconst (v := 4) hx hb dL_law_842 (by decide) ?_
    refine lv_iadd hx hb dL_law_843 ?_
    refine tk_i 4 (by decide) ?_
    refine va_sld hx hb hX hbl hbA hS (show ¬ ((4 : Int32) < 0 ∨ 6 ≤ Int32.toNatClampNeg 4) by decide) dL_law_844 ?_
    refine tk_i x4 ex4 ?_
    refine lv_aload_n hx hb dL_law_845 rfl (lv_at hl 3 rfl) ?_
    refine lv_iload_n hx hb dL_law_846 rfl (lv_at hl 0 rfl) ?_
    refine lv_iconst (v := 5) hx hb dL_law_847 (by decide) ?_
    refine lv_iadd hx hb dL_law_848 ?_
    refine tk_i 5 (by decide) ?_
    refine va_sld hx hb hX hbl hbA hS (show ¬ ((5 : Int32) < 0 ∨ 6 ≤ Int32.toNatClampNeg 5) by decide) dL_law_849 ?_
    refine tk_i 0 ex5 ?_
    have hPc : va_P (dC, dI) vwCl (mw b cy) _ := hP.sub [56, 57, 58, 59, 60, 61, 62, 63] rfl
    have hDc := hD.sub (ws' := mw b cy) [56, 57, 58, 59, 60, 61, 62, 63] (by decide) rfl
    have hFc := va_free (wc := mw b cy) hD hS hA [56, 57, 58, 59, 60, 61, 62, 63] rfl
    refine va_calli (va_runV (As := [.int 0, .int x2, .int x3, .int x4, .int 0]) (rest := [.int (-2)]) ⟨hx, hb, hml, hown, hts⟩ (c_X12_tries l dC dI cy b _ 0 x2 x3 x4 0) (cwV 5 hts g_L_law_X12_tries_114 rfl rfl rfl (by decide +kernel) ⟨Nat.le_of_ble_eq_true rfl, Nat.le_of_ble_eq_true rfl⟩) (pv_ps hC hPc hDc (ci := 12) (q0 := 0) rfl rfl) rfl rfl hl.1 rfl (lv_room (Nat.le_of_ble_eq_true rfl)) dL_law_850 ⟨Nat.le_of_ble_eq_true rfl, Nat.le_of_ble_eq_true rfl⟩) hS (fun q _ h => hFc q h) hFc (fun r_ u t_ H1 locs ht hvm hw hB hz1 hk1 hS => ?_)
    obtain ⟨hP, hD⟩ := va_join (wr := []) (w1 := []) hP hD [56, 57, 58, 59, 60, 61, 62, 63] [] rfl rfl (by decide) (by decide) hk1 hFc va_P0 va_D0
    generalize H1 = H at hP hS ⊢
    have hP : va_P (dC, dI) vwCl ([]) H := hP
    have hD : va_D A ([]) := hD
    rcases hw with ⟨c3692_, rfl⟩ | ⟨-, c3694_, rfl⟩ | ⟨-, -, c3697_, c3698_, rfl⟩ | ⟨c3699_, -, rfl⟩ | ⟨-, -, c3703_, c3704_, c3705_, rfl⟩ | ⟨c3706_, c3707_, -, rfl⟩ | ⟨-, -, c3711_, c3712_, c3713_, c3714_, rfl⟩ | ⟨c3715_, c3716_, c3717_, -, rfl⟩ | ⟨-, -, c3721_, c3722_, c3723_, c3724_, c3725_, rfl⟩ | ⟨c3726_, c3727_, c3728_, c3729_, -, rfl⟩ | ⟨-, -, c3733_, c3734_, c3735_, c3736_, c3737_, c3738_, rfl⟩ | ⟨c3739_, c3740_, c3741_, c3742_, c3743_, -, rfl⟩ | ⟨-, -, c3747_, c3748_, c3749_, c3750_, c3751_, c3752_, c3753_, rfl⟩ | ⟨c3754_, c3755_, c3756_, c3757_, c3758_, c3759_, -, rfl⟩ | ⟨-, -, c3763_, c3764_, c3765_, c3766_, c3767_, c3768_, c3769_, c3770_, rfl⟩ | ⟨c3771_, c3772_, c3773_, c3774_, c3775_, c3776_, c3777_, -, rfl⟩ | ⟨-, -, c3781_, c3782_, c3783_, c3784_, c3785_, c3786_, -, c3788_, c3789_, rfl⟩ | ⟨c3790_, c3791_, c3792_, c3793_, c3794_, c3795_, -, c3797_, -, rfl⟩ | ⟨-, -, c3801_, c3802_, c3803_, c3804_, c3805_, c3806_, -, c3808_, rfl⟩ | ⟨c3809_, c3810_, c3811_, c3812_, c3813_, c3814_, -, -, rfl⟩
    · skip
      exact absurd c3692_ (by decide)
    · skip
      exact absurd c3694_ (by decide)
    · skip
      exact absurd c3698_ (by decide)
    · skip
      exfalso
      have z0_ := tz_nlt_r c1432_ (show (0 : Int32).toInt = 0 by decide)
      have z1_ := tz_nle_l c1433_ (show (65536 : Int32).toInt = 65536 by decide)
      have z2_ := tz_lt_r c3699_ (show (0 : Int32).toInt = 0 by decide)
      omega
    · skip
      exact absurd c3705_ (by decide)
    · skip
      exfalso
      have z0_ := tz_nlt_r c1432_ (show (0 : Int32).toInt = 0 by decide)
      have z1_ := tz_nle_l c1433_ (show (65536 : Int32).toInt = 65536 by decide)
      have z2_ := tz_le_l c3707_ (show (65536 : Int32).toInt = 65536 by decide)
      omega
    · skip
      exact absurd c3714_ (by decide)
    · skip
      exfalso
      have z0_ := tz_nlt_r c1434_ (show (0 : Int32).toInt = 0 by decide)
      have z1_ := tz_nle_l c1435_ (show (65536 : Int32).toInt = 65536 by decide)
      have z2_ := tz_lt_r c3717_ (show (0 : Int32).toInt = 0 by decide)
      omega
    · skip
      exact absurd c3725_ (by decide)
    · skip
      exfalso
      have z0_ := tz_nlt_r c1434_ (show (0 : Int32).toInt = 0 by decide)
      have z1_ := tz_nle_l c1435_ (show (65536 : Int32).toInt = 65536 by decide)
      have z2_ := tz_le_l c3729_ (show (65536 : Int32).toInt = 65536 by decide)
      omega
    · skip
      exact absurd c3738_ (by decide)
    · skip
      exfalso
      have z0_ := tz_nlt_r c1436_ (show (0 : Int32).toInt = 0 by decide)
      have z1_ := tz_nle_l c1437_ (show (65536 : Int32).toInt = 65536 by decide)
      have z2_ := tz_lt_r c3743_ (show (0 : Int32).toInt = 0 by decide)
      omega
    · skip
      exact absurd c3753_ (by decide)
    · skip
      exfalso
      have z0_ := tz_nlt_r c1436_ (show (0 : Int32).toInt = 0 by decide)
      have z1_ := tz_nle_l c1437_ (show (65536 : Int32).toInt = 65536 by decide)
      have z2_ := tz_le_l c3759_ (show (65536 : Int32).toInt = 65536 by decide)
      omega
    · skip
      exact absurd c3770_ (by decide)
    · skip
      exact absurd c3777_ (by decide)
    · skip
      exact absurd c3789_ (by decide)
    · skip
      exact absurd c3797_ (by decide)
    · skip
      exact absurd c3808_ (by decide)
    · skip
      refine lv_icmp_eq (tgt := 983) hx hb dL_law_853 (by decide) (fun _ => ?_) (fun c9_ => absurd (by decide) c9_)
      refine lv_iinc (v := 6) (lv' := [(3, .int 6), (2, .ref (b 0)), (1, .ref (a 0)), (0, .ref sc)]) hx hb dL_law_983 hl (k := 0) rfl (by decide) (by decide) rfl (fun ls hl => ?_)
      refine lv_goto (tgt := 18) hx hb dL_law_986 (by decide) ?_
      refine lv_iload_n hx hb dL_law_18 rfl (lv_at hl 0 rfl) ?_
      refine lv_aload_n hx hb dL_law_19 rfl (lv_at hl 3 rfl) ?_
      refine va_slen hx hb hX hbl hbA hS dL_law_20 ?_
      refine tk_i 6 (by decide) ?_
      refine lv_bipush (v := 6) hx hb dL_law_21 (by decide) ?_
      refine lv_isub hx hb dL_law_23 ?_
      refine tk_i 0 (by decide) ?_
      refine lv_icmp_gt (tgt := 989) hx hb dL_law_24 (by decide) (fun _ => ?_) (fun c9_ => absurd (by decide) c9_)
      refine lv_iconst (v := 1) hx hb dL_law_989 (by decide) ?_
      refine va_forget (fun q hq => by have h := hS.2.2 q hq; rw [hAe] at h; exact h) ?_
      refine W.widen (k := 600000) (n := 7302249) (Nat.le_of_ble_eq_true rfl) (Nat.le_of_ble_eq_true rfl) ?_
      exact lw_ret hx hb hr hlocks dL_law_990
  · skip
    refine lv_aload_n hx hb dL_law_824 rfl (lv_at hl 1 rfl) ?_
    refine lv_aload_n hx hb dL_law_825 rfl (lv_at hl 3 rfl) ?_
    refine lv_iload_n hx hb dL_law_826 rfl (lv_at hl 0 rfl) ?_
    refine lv_iconst (v := 1) hx hb dL_law_827 (by decide) ?_
    refine lv_iadd hx hb dL_law_828 ?_
    refine tk_i 1 (by decide) ?_
    refine va_sld hx hb hX hbl hbA hS (show ¬ ((1 : Int32) < 0 ∨ 6 ≤ Int32.toNatClampNeg 1) by decide) dL_law_829 ?_
    refine tk_i x1 ex1 ?_
    refine lv_aload_n hx hb dL_law_830 rfl (lv_at hl 3 rfl) ?_
    refine lv_iload_n hx hb dL_law_831 rfl (lv_at hl 0 rfl) ?_
    refine lv_iconst (v := 2) hx hb dL_law_832 (by decide) ?_
    refine lv_iadd hx hb dL_law_833 ?_
    refine tk_i 2 (by decide) ?_
    refine va_sld hx hb hX hbl hbA hS (show ¬ ((2 : Int32) < 0 ∨ 6 ≤ Int32.toNatClampNeg 2) by decide) dL_law_834 ?_
    refine tk_i x2 ex2 ?_
    refine lv_aload_n hx hb dL_law_835 rfl (lv_at hl 3 rfl) ?_
    refine lv_iload_n hx hb dL_law_836 rfl (lv_at hl 0 rfl) ?_
    refine lv_iconst (v := 3) hx hb dL_law_837 (by decide) ?_
    refine lv_iadd hx hb dL_law_838 ?_
    refine tk_i 3 (by decide) ?_
    refine va_sld hx hb hX hbl hbA hS (show ¬ ((3 : Int32) < 0 ∨ 6 ≤ Int32.toNatClampNeg 3) by decide) dL_law_839 ?_
    refine tk_i x3 ex3 ?_
    refine lv_aload_n hx hb dL_law_840 rfl (lv_at hl 3 rfl) ?_
    refine lv_iload_n hx hb dL_law_841 rfl (lv_at hl 0 rfl) ?_
    refine lv_iconst (v := 4) hx hb dL_law_842 (by decide) ?_
    refine lv_iadd hx hb dL_law_843 ?_
    refine tk_i 4 (by decide) ?_
    refine va_sld hx hb hX hbl hbA hS (show ¬ ((4 : Int32) < 0 ∨ 6 ≤ Int32.toNatClampNeg 4) by decide) dL_law_844 ?_
    refine tk_i x4 ex4 ?_
    refine lv_aload_n hx hb dL_law_845 rfl (lv_at hl 3 rfl) ?_
    refine lv_iload_n hx hb dL_law_846 rfl (lv_at hl 0 rfl) ?_
    refine lv_iconst (v := 5) hx hb dL_law_847 (by decide) ?_
    refine lv_iadd hx hb dL_law_848 ?_
    refine tk_i 5 (by decide) ?_
    refine va_sld hx hb hX hbl hbA hS (show ¬ ((5 : Int32) < 0 ∨ 6 ≤ Int32.toNatClampNeg 5) by decide) dL_law_849 ?_
    refine tk_i x5 ex5 ?_
    have hPc : va_P (dC, dI) vwCl (mw b cy) _ := hP.sub [56, 57, 58, 59, 60, 61, 62, 63] rfl
    have hDc := hD.sub (ws' := mw b cy) [56, 57, 58, 59, 60, 61, 62, 63] (by decide) rfl
    have hFc := va_free (wc := mw b cy) hD hS hA [56, 57, 58, 59, 60, 61, 62, 63] rfl
    refine va_calli (va_runV (As := [.int x1, .int x2, .int x3, .int x4, .int x5]) (rest := [.int (-1)]) ⟨hx, hb, hml, hown, hts⟩ (c_X12_tries l dC dI cy b _ x1 x2 x3 x4 x5) (cwV 5 hts g_L_law_X12_tries_114 rfl rfl rfl (by decide +kernel) ⟨Nat.le_of_ble_eq_true rfl, Nat.le_of_ble_eq_true rfl⟩) (pv_ps hC hPc hDc (ci := 12) (q0 := 0) rfl rfl) rfl rfl hl.1 rfl (lv_room (Nat.le_of_ble_eq_true rfl)) dL_law_850 ⟨Nat.le_of_ble_eq_true rfl, Nat.le_of_ble_eq_true rfl⟩) hS (fun q _ h => hFc q h) hFc (fun r_ u t_ H1 locs ht hvm hw hB hz1 hk1 hS => ?_)
    obtain ⟨hP, hD⟩ := va_join (wr := []) (w1 := []) hP hD [56, 57, 58, 59, 60, 61, 62, 63] [] rfl rfl (by decide) (by decide) hk1 hFc va_P0 va_D0
    generalize H1 = H at hP hS ⊢
    have hP : va_P (dC, dI) vwCl ([]) H := hP
    have hD : va_D A ([]) := hD
    rcases hw with ⟨c3817_, rfl⟩ | ⟨c3818_, c3819_, rfl⟩ | ⟨c3820_, c3821_, c3822_, c3823_, rfl⟩ | ⟨c3824_, c3825_, rfl⟩ | ⟨c3826_, c3827_, c3828_, c3829_, c3830_, rfl⟩ | ⟨c3831_, c3832_, c3833_, rfl⟩ | ⟨c3834_, c3835_, c3836_, c3837_, c3838_, c3839_, rfl⟩ | ⟨c3840_, c3841_, c3842_, c3843_, rfl⟩ | ⟨c3844_, c3845_, c3846_, c3847_, c3848_, c3849_, c3850_, rfl⟩ | ⟨c3851_, c3852_, c3853_, c3854_, c3855_, rfl⟩ | ⟨c3856_, c3857_, c3858_, c3859_, c3860_, c3861_, c3862_, c3863_, rfl⟩ | ⟨c3864_, c3865_, c3866_, c3867_, c3868_, c3869_, rfl⟩ | ⟨c3870_, c3871_, c3872_, c3873_, c3874_, c3875_, c3876_, c3877_, c3878_, rfl⟩ | ⟨c3879_, c3880_, c3881_, c3882_, c3883_, c3884_, c3885_, rfl⟩ | ⟨c3886_, c3887_, c3888_, c3889_, c3890_, c3891_, c3892_, c3893_, c3894_, c3895_, rfl⟩ | ⟨c3896_, c3897_, c3898_, c3899_, c3900_, c3901_, c3902_, c3903_, rfl⟩ | ⟨c3904_, c3905_, c3906_, c3907_, c3908_, c3909_, c3910_, c3911_, c3912_, c3913_, c3914_, rfl⟩ | ⟨c3915_, c3916_, c3917_, c3918_, c3919_, c3920_, c3921_, c3922_, c3923_, rfl⟩ | ⟨c3924_, c3925_, c3926_, c3927_, c3928_, c3929_, c3930_, c3931_, c3932_, c3933_, rfl⟩ | ⟨c3934_, c3935_, c3936_, c3937_, c3938_, c3939_, c3940_, c3941_, rfl⟩
    · skip
      exfalso
      have z0_ := tz_nlt_r c1440_ (show (0 : Int32).toInt = 0 by decide)
      have z1_ := tz_nle_r c1441_ (show (4 : Int32).toInt = 4 by decide)
      have z2_ := tz_lt_r c3817_ (show (0 : Int32).toInt = 0 by decide)
      omega
    · skip
      refine lv_icmp_eq (tgt := 983) hx hb dL_law_853 (by decide) (fun _ => ?_) (fun c9_ => absurd (by decide) c9_)
      refine lv_iinc (v := 6) (lv' := [(3, .int 6), (2, .ref (b 0)), (1, .ref (a 0)), (0, .ref sc)]) hx hb dL_law_983 hl (k := 0) rfl (by decide) (by decide) rfl (fun ls hl => ?_)
      refine lv_goto (tgt := 18) hx hb dL_law_986 (by decide) ?_
      refine lv_iload_n hx hb dL_law_18 rfl (lv_at hl 0 rfl) ?_
      refine lv_aload_n hx hb dL_law_19 rfl (lv_at hl 3 rfl) ?_
      refine va_slen hx hb hX hbl hbA hS dL_law_20 ?_
      refine tk_i 6 (by decide) ?_
      refine lv_bipush (v := 6) hx hb dL_law_21 (by decide) ?_
      refine lv_isub hx hb dL_law_23 ?_
      refine tk_i 0 (by decide) ?_
      refine lv_icmp_gt (tgt := 989) hx hb dL_law_24 (by decide) (fun _ => ?_) (fun c9_ => absurd (by decide) c9_)
      refine lv_iconst (v := 1) hx hb dL_law_989 (by decide) ?_
      refine va_forget (fun q hq => by have h := hS.2.2 q hq; rw [hAe] at h; exact h) ?_
      refine W.widen (k := 600000) (n := 7302249) (Nat.le_of_ble_eq_true rfl) (Nat.le_of_ble_eq_true rfl) ?_
      exact lw_ret hx hb hr hlocks dL_law_990
    · skip
      exfalso
      have z0_ := tz_nlt_r c1440_ (show (0 : Int32).toInt = 0 by decide)
      have z1_ := tz_nle_r c1441_ (show (4 : Int32).toInt = 4 by decide)
      have z2_ := tz_nlt_l c3821_ (show (4 : Int32).toInt = 4 by decide)
      omega
    · skip
      exfalso
      have z0_ := tz_nlt_r c1440_ (show (0 : Int32).toInt = 0 by decide)
      have z1_ := tz_nle_r c1441_ (show (4 : Int32).toInt = 4 by decide)
      have z2_ := tz_eq_r c3825_ (show (0 : Int32).toInt = 0 by decide)
      omega
    · skip
      exfalso
      have z0_ := tz_nlt_r c1440_ (show (0 : Int32).toInt = 0 by decide)
      have z1_ := tz_nle_r c1441_ (show (4 : Int32).toInt = 4 by decide)
      have z2_ := tz_nlt_l c3827_ (show (4 : Int32).toInt = 4 by decide)
      omega
    · skip
      exfalso
      have z0_ := tz_nlt_r c1440_ (show (0 : Int32).toInt = 0 by decide)
      have z1_ := tz_nle_r c1441_ (show (4 : Int32).toInt = 4 by decide)
      have z2_ := tz_eq_r c3833_ (show (0 : Int32).toInt = 0 by decide)
      omega
    · skip
      exfalso
      have z0_ := tz_nlt_r c1440_ (show (0 : Int32).toInt = 0 by decide)
      have z1_ := tz_nle_r c1441_ (show (4 : Int32).toInt = 4 by decide)
      have z2_ := tz_nlt_l c3835_ (show (4 : Int32).toInt = 4 by decide)
      omega
    · skip
      exfalso
      have z0_ := tz_nlt_r c1440_ (show (0 : Int32).toInt = 0 by decide)
      have z1_ := tz_nle_r c1441_ (show (4 : Int32).toInt = 4 by decide)
      have z2_ := tz_eq_r c3843_ (show (0 : Int32).toInt = 0 by decide)
      omega
    · skip
      exfalso
      have z0_ := tz_nlt_r c1440_ (show (0 : Int32).toInt = 0 by decide)
      have z1_ := tz_nle_r c1441_ (show (4 : Int32).toInt = 4 by decide)
      have z2_ := tz_nlt_l c3845_ (show (4 : Int32).toInt = 4 by decide)
      omega
    · skip
      exfalso
      have z0_ := tz_nlt_r c1440_ (show (0 : Int32).toInt = 0 by decide)
      have z1_ := tz_nle_r c1441_ (show (4 : Int32).toInt = 4 by decide)
      have z2_ := tz_eq_r c3855_ (show (0 : Int32).toInt = 0 by decide)
      omega
    · skip
      exfalso
      have z0_ := tz_nlt_r c1440_ (show (0 : Int32).toInt = 0 by decide)
      have z1_ := tz_nle_r c1441_ (show (4 : Int32).toInt = 4 by decide)
      have z2_ := tz_nlt_l c3857_ (show (4 : Int32).toInt = 4 by decide)
      omega
    · skip
      exfalso
      have z0_ := tz_nlt_r c1440_ (show (0 : Int32).toInt = 0 by decide)
      have z1_ := tz_nle_r c1441_ (show (4 : Int32).toInt = 4 by decide)
      have z2_ := tz_eq_r c3869_ (show (0 : Int32).toInt = 0 by decide)
      omega
    · skip
      exfalso
      have z0_ := tz_nlt_r c1440_ (show (0 : Int32).toInt = 0 by decide)
      have z1_ := tz_nle_r c1441_ (show (4 : Int32).toInt = 4 by decide)
      have z2_ := tz_nlt_l c3871_ (show (4 : Int32).toInt = 4 by decide)
      omega
    · skip
      exfalso
      have z0_ := tz_nlt_r c1440_ (show (0 : Int32).toInt = 0 by decide)
      have z1_ := tz_nle_r c1441_ (show (4 : Int32).toInt = 4 by decide)
      have z2_ := tz_eq_r c3885_ (show (0 : Int32).toInt = 0 by decide)
      omega
    · skip
      exfalso
      have z0_ := tz_nlt_r c1440_ (show (0 : Int32).toInt = 0 by decide)
      have z1_ := tz_nle_r c1441_ (show (4 : Int32).toInt = 4 by decide)
      have z2_ := tz_nlt_l c3887_ (show (4 : Int32).toInt = 4 by decide)
      omega
    · skip
      exfalso
      have z0_ := tz_nlt_r c1440_ (show (0 : Int32).toInt = 0 by decide)
      have z1_ := tz_nle_r c1441_ (show (4 : Int32).toInt = 4 by decide)
      have z2_ := tz_eq_r c3903_ (show (0 : Int32).toInt = 0 by decide)
      omega
    · skip
      exfalso
      have z0_ := tz_nlt_r c1440_ (show (0 : Int32).toInt = 0 by decide)
      have z1_ := tz_nle_r c1441_ (show (4 : Int32).toInt = 4 by decide)
      have z2_ := tz_nlt_l c3905_ (show (4 : Int32).toInt = 4 by decide)
      omega
    · skip
      exfalso
      have z0_ := tz_nlt_r c1440_ (show (0 : Int32).toInt = 0 by decide)
      have z1_ := tz_nle_r c1441_ (show (4 : Int32).toInt = 4 by decide)
      have z2_ := tz_eq_r c3923_ (show (0 : Int32).toInt = 0 by decide)
      omega
    · skip
      exfalso
      have z0_ := tz_nlt_r c1440_ (show (0 : Int32).toInt = 0 by decide)
      have z1_ := tz_nle_r c1441_ (show (4 : Int32).toInt = 4 by decide)
      have z2_ := tz_nlt_l c3925_ (show (4 : Int32).toInt = 4 by decide)
      omega
    · skip
      subst c3940_
      exfalso
      have z0_ := tz_nlt_r c1440_ (show (0 : Int32).toInt = 0 by decide)
      have z1_ := tz_nle_r c1441_ (show (4 : Int32).toInt = 4 by decide)
      have z2_ := tz_eq_r c3941_ (show (0 : Int32).toInt = 0 by decide)
      omega
