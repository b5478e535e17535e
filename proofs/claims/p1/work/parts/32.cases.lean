theorem dL_law_485 : decode cL_law 485 = .ok (.aload_n 1, 1) := by decide +kernel
theorem dL_law_486 : decode cL_law 486 = .ok (.aload_n 0, 1) := by decide +kernel
theorem dL_law_487 : decode cL_law 487 = .ok (.iload 5, 2) := by decide +kernel
theorem dL_law_489 : decode cL_law 489 = .ok (.iconst 1, 1) := by decide +kernel
theorem dL_law_490 : decode cL_law 490 = .ok (.iadd, 1) := by decide +kernel
theorem dL_law_491 : decode cL_law 491 = .ok (.iaload, 1) := by decide +kernel
theorem dL_law_492 : decode cL_law 492 = .ok (.aload_n 3, 1) := by decide +kernel
theorem dL_law_493 : decode cL_law 493 = .ok (.invokestatic 114, 3) := by decide +kernel
theorem dL_law_496 : decode cL_law 496 = .ok (.istore 6, 2) := by decide +kernel
theorem dL_law_498 : decode cL_law 498 = .ok (.aload_n 2, 1) := by decide +kernel
theorem dL_law_499 : decode cL_law 499 = .ok (.aload_n 0, 1) := by decide +kernel
theorem dL_law_500 : decode cL_law 500 = .ok (.iload 5, 2) := by decide +kernel
theorem dL_law_502 : decode cL_law 502 = .ok (.iconst 1, 1) := by decide +kernel
theorem dL_law_503 : decode cL_law 503 = .ok (.iadd, 1) := by decide +kernel
theorem dL_law_504 : decode cL_law 504 = .ok (.iaload, 1) := by decide +kernel
theorem dL_law_505 : decode cL_law 505 = .ok (.invokevirtual 116, 3) := by decide +kernel
theorem dL_law_508 : decode cL_law 508 = .ok (.istore 7, 2) := by decide +kernel
theorem dL_law_510 : decode cL_law 510 = .ok (.aload_n 2, 1) := by decide +kernel
theorem dL_law_511 : decode cL_law 511 = .ok (.invokevirtual 100, 3) := by decide +kernel
theorem dL_law_514 : decode cL_law 514 = .ok (.iload 6, 2) := by decide +kernel
theorem dL_law_516 : decode cL_law 516 = .ok (.if_icmp .eq 5, 3) := by decide +kernel
theorem dL_law_521 : decode cL_law 521 = .ok (.iload 6, 2) := by decide +kernel
theorem dL_law_523 : decode cL_law 523 = .ok (.ifCond .ne 15, 3) := by decide +kernel
theorem dL_law_538 : decode cL_law 538 = .ok (.goto 1146, 3) := by decide +kernel
theorem dL_law_541 : decode cL_law 541 = .ok (.aload_n 1, 1) := by decide +kernel
theorem dL_law_542 : decode cL_law 542 = .ok (.aload_n 0, 1) := by decide +kernel
theorem dL_law_543 : decode cL_law 543 = .ok (.iload 5, 2) := by decide +kernel
theorem dL_law_545 : decode cL_law 545 = .ok (.iconst 1, 1) := by decide +kernel
theorem dL_law_546 : decode cL_law 546 = .ok (.iadd, 1) := by decide +kernel
theorem dL_law_547 : decode cL_law 547 = .ok (.iaload, 1) := by decide +kernel
theorem dL_law_548 : decode cL_law 548 = .ok (.aload_n 3, 1) := by decide +kernel
theorem dL_law_549 : decode cL_law 549 = .ok (.invokestatic 117, 3) := by decide +kernel
theorem dL_law_552 : decode cL_law 552 = .ok (.istore 6, 2) := by decide +kernel
theorem dL_law_554 : decode cL_law 554 = .ok (.aload_n 2, 1) := by decide +kernel
theorem dL_law_555 : decode cL_law 555 = .ok (.aload_n 0, 1) := by decide +kernel
theorem dL_law_556 : decode cL_law 556 = .ok (.iload 5, 2) := by decide +kernel
theorem dL_law_558 : decode cL_law 558 = .ok (.iconst 1, 1) := by decide +kernel
theorem dL_law_559 : decode cL_law 559 = .ok (.iadd, 1) := by decide +kernel
theorem dL_law_560 : decode cL_law 560 = .ok (.iaload, 1) := by decide +kernel
theorem dL_law_561 : decode cL_law 561 = .ok (.invokevirtual 119, 3) := by decide +kernel
theorem dL_law_564 : decode cL_law 564 = .ok (.istore 7, 2) := by decide +kernel
theorem dL_law_566 : decode cL_law 566 = .ok (.aload_n 2, 1) := by decide +kernel
theorem dL_law_567 : decode cL_law 567 = .ok (.invokevirtual 100, 3) := by decide +kernel
theorem dL_law_570 : decode cL_law 570 = .ok (.iload 6, 2) := by decide +kernel
theorem dL_law_572 : decode cL_law 572 = .ok (.if_icmp .eq 5, 3) := by decide +kernel
theorem dL_law_577 : decode cL_law 577 = .ok (.iload 6, 2) := by decide +kernel
theorem dL_law_579 : decode cL_law 579 = .ok (.ifCond .ne 15, 3) := by decide +kernel
theorem dL_law_594 : decode cL_law 594 = .ok (.goto 1090, 3) := by decide +kernel
theorem dL_law_664 : decode cL_law 664 = .ok (.aload_n 1, 1) := by decide +kernel
theorem dL_law_665 : decode cL_law 665 = .ok (.aload_n 0, 1) := by decide +kernel
theorem dL_law_666 : decode cL_law 666 = .ok (.iload 5, 2) := by decide +kernel
theorem dL_law_668 : decode cL_law 668 = .ok (.iconst 1, 1) := by decide +kernel
theorem dL_law_669 : decode cL_law 669 = .ok (.iadd, 1) := by decide +kernel
theorem dL_law_670 : decode cL_law 670 = .ok (.iaload, 1) := by decide +kernel
theorem dL_law_671 : decode cL_law 671 = .ok (.aload_n 3, 1) := by decide +kernel
theorem dL_law_672 : decode cL_law 672 = .ok (.invokestatic 133, 3) := by decide +kernel
theorem dL_law_675 : decode cL_law 675 = .ok (.istore 6, 2) := by decide +kernel
theorem dL_law_677 : decode cL_law 677 = .ok (.aload_n 2, 1) := by decide +kernel
theorem dL_law_678 : decode cL_law 678 = .ok (.aload_n 0, 1) := by decide +kernel
theorem dL_law_679 : decode cL_law 679 = .ok (.iload 5, 2) := by decide +kernel
theorem dL_law_681 : decode cL_law 681 = .ok (.iconst 1, 1) := by decide +kernel
theorem dL_law_682 : decode cL_law 682 = .ok (.iadd, 1) := by decide +kernel
theorem dL_law_683 : decode cL_law 683 = .ok (.iaload, 1) := by decide +kernel
theorem dL_law_684 : decode cL_law 684 = .ok (.invokevirtual 135, 3) := by decide +kernel
theorem dL_law_687 : decode cL_law 687 = .ok (.istore 7, 2) := by decide +kernel
theorem dL_law_689 : decode cL_law 689 = .ok (.aload_n 2, 1) := by decide +kernel
theorem dL_law_690 : decode cL_law 690 = .ok (.invokevirtual 100, 3) := by decide +kernel
theorem dL_law_693 : decode cL_law 693 = .ok (.iload 6, 2) := by decide +kernel
theorem dL_law_695 : decode cL_law 695 = .ok (.if_icmp .eq 5, 3) := by decide +kernel
theorem dL_law_700 : decode cL_law 700 = .ok (.iload 6, 2) := by decide +kernel
theorem dL_law_702 : decode cL_law 702 = .ok (.ifCond .ne 15, 3) := by decide +kernel
theorem dL_law_705 : decode cL_law 705 = .ok (.aload_n 3, 1) := by decide +kernel
theorem dL_law_706 : decode cL_law 706 = .ok (.iconst 0, 1) := by decide +kernel
theorem dL_law_707 : decode cL_law 707 = .ok (.laload, 1) := by decide +kernel
theorem dL_law_708 : decode cL_law 708 = .ok (.iload 7, 2) := by decide +kernel
theorem dL_law_710 : decode cL_law 710 = .ok (.i2l, 1) := by decide +kernel
theorem dL_law_711 : decode cL_law 711 = .ok (.lcmp, 1) := by decide +kernel
theorem dL_law_712 : decode cL_law 712 = .ok (.ifCond .eq 5, 3) := by decide +kernel
theorem dL_law_717 : decode cL_law 717 = .ok (.goto 967, 3) := by decide +kernel
theorem dL_law_720 : decode cL_law 720 = .ok (.aload_n 1, 1) := by decide +kernel
theorem dL_law_721 : decode cL_law 721 = .ok (.aload_n 0, 1) := by decide +kernel
theorem dL_law_722 : decode cL_law 722 = .ok (.iload 5, 2) := by decide +kernel
theorem dL_law_724 : decode cL_law 724 = .ok (.iconst 1, 1) := by decide +kernel
theorem dL_law_725 : decode cL_law 725 = .ok (.iadd, 1) := by decide +kernel
theorem dL_law_726 : decode cL_law 726 = .ok (.iaload, 1) := by decide +kernel
theorem dL_law_727 : decode cL_law 727 = .ok (.aload_n 3, 1) := by decide +kernel
theorem dL_law_728 : decode cL_law 728 = .ok (.invokestatic 136, 3) := by decide +kernel
theorem dL_law_731 : decode cL_law 731 = .ok (.istore 6, 2) := by decide +kernel
theorem dL_law_733 : decode cL_law 733 = .ok (.aload_n 2, 1) := by decide +kernel
theorem dL_law_734 : decode cL_law 734 = .ok (.aload_n 0, 1) := by decide +kernel
theorem dL_law_735 : decode cL_law 735 = .ok (.iload 5, 2) := by decide +kernel
theorem dL_law_737 : decode cL_law 737 = .ok (.iconst 1, 1) := by decide +kernel
theorem dL_law_738 : decode cL_law 738 = .ok (.iadd, 1) := by decide +kernel
theorem dL_law_739 : decode cL_law 739 = .ok (.iaload, 1) := by decide +kernel
theorem dL_law_740 : decode cL_law 740 = .ok (.invokevirtual 138, 3) := by decide +kernel
theorem dL_law_743 : decode cL_law 743 = .ok (.istore 7, 2) := by decide +kernel
theorem dL_law_745 : decode cL_law 745 = .ok (.aload_n 2, 1) := by decide +kernel
theorem dL_law_746 : decode cL_law 746 = .ok (.invokevirtual 100, 3) := by decide +kernel
theorem dL_law_749 : decode cL_law 749 = .ok (.iload 6, 2) := by decide +kernel
theorem dL_law_751 : decode cL_law 751 = .ok (.if_icmp .eq 5, 3) := by decide +kernel
theorem dL_law_756 : decode cL_law 756 = .ok (.iload 6, 2) := by decide +kernel
theorem dL_law_758 : decode cL_law 758 = .ok (.ifCond .ne 15, 3) := by decide +kernel
theorem dL_law_761 : decode cL_law 761 = .ok (.aload_n 3, 1) := by decide +kernel
theorem dL_law_762 : decode cL_law 762 = .ok (.iconst 0, 1) := by decide +kernel
theorem dL_law_763 : decode cL_law 763 = .ok (.laload, 1) := by decide +kernel
theorem dL_law_764 : decode cL_law 764 = .ok (.iload 7, 2) := by decide +kernel
theorem dL_law_766 : decode cL_law 766 = .ok (.i2l, 1) := by decide +kernel
theorem dL_law_767 : decode cL_law 767 = .ok (.lcmp, 1) := by decide +kernel
theorem dL_law_768 : decode cL_law 768 = .ok (.ifCond .eq 5, 3) := by decide +kernel
theorem dL_law_773 : decode cL_law 773 = .ok (.goto 911, 3) := by decide +kernel
theorem dL_law_860 : decode cL_law 860 = .ok (.aload_n 1, 1) := by decide +kernel
theorem dL_law_861 : decode cL_law 861 = .ok (.aload_n 0, 1) := by decide +kernel
theorem dL_law_862 : decode cL_law 862 = .ok (.iload 5, 2) := by decide +kernel
theorem dL_law_864 : decode cL_law 864 = .ok (.iconst 1, 1) := by decide +kernel
theorem dL_law_865 : decode cL_law 865 = .ok (.iadd, 1) := by decide +kernel
theorem dL_law_866 : decode cL_law 866 = .ok (.iaload, 1) := by decide +kernel
theorem dL_law_867 : decode cL_law 867 = .ok (.aload_n 3, 1) := by decide +kernel
theorem dL_law_868 : decode cL_law 868 = .ok (.invokestatic 143, 3) := by decide +kernel
theorem dL_law_871 : decode cL_law 871 = .ok (.istore 6, 2) := by decide +kernel
theorem dL_law_873 : decode cL_law 873 = .ok (.aload_n 2, 1) := by decide +kernel
theorem dL_law_874 : decode cL_law 874 = .ok (.aload_n 0, 1) := by decide +kernel
theorem dL_law_875 : decode cL_law 875 = .ok (.iload 5, 2) := by decide +kernel
theorem dL_law_877 : decode cL_law 877 = .ok (.iconst 1, 1) := by decide +kernel
theorem dL_law_878 : decode cL_law 878 = .ok (.iadd, 1) := by decide +kernel
theorem dL_law_879 : decode cL_law 879 = .ok (.iaload, 1) := by decide +kernel
theorem dL_law_880 : decode cL_law 880 = .ok (.invokevirtual 145, 3) := by decide +kernel
theorem dL_law_883 : decode cL_law 883 = .ok (.istore 7, 2) := by decide +kernel
theorem dL_law_885 : decode cL_law 885 = .ok (.aload_n 2, 1) := by decide +kernel
theorem dL_law_886 : decode cL_law 886 = .ok (.invokevirtual 100, 3) := by decide +kernel
theorem dL_law_889 : decode cL_law 889 = .ok (.iload 6, 2) := by decide +kernel
theorem dL_law_891 : decode cL_law 891 = .ok (.if_icmp .eq 5, 3) := by decide +kernel
theorem dL_law_896 : decode cL_law 896 = .ok (.iload 6, 2) := by decide +kernel
theorem dL_law_898 : decode cL_law 898 = .ok (.ifCond .ne 15, 3) := by decide +kernel
theorem dL_law_913 : decode cL_law 913 = .ok (.goto 771, 3) := by decide +kernel
theorem dL_law_1451 : decode cL_law 1451 = .ok (.aload_n 1, 1) := by decide +kernel
theorem dL_law_1452 : decode cL_law 1452 = .ok (.aload_n 0, 1) := by decide +kernel
theorem dL_law_1453 : decode cL_law 1453 = .ok (.iload 5, 2) := by decide +kernel
theorem dL_law_1455 : decode cL_law 1455 = .ok (.iconst 1, 1) := by decide +kernel
theorem dL_law_1456 : decode cL_law 1456 = .ok (.iadd, 1) := by decide +kernel
theorem dL_law_1457 : decode cL_law 1457 = .ok (.iaload, 1) := by decide +kernel
theorem dL_law_1458 : decode cL_law 1458 = .ok (.aload_n 3, 1) := by decide +kernel
theorem dL_law_1459 : decode cL_law 1459 = .ok (.invokestatic 213, 3) := by decide +kernel
theorem dL_law_1462 : decode cL_law 1462 = .ok (.istore 6, 2) := by decide +kernel
theorem dL_law_1464 : decode cL_law 1464 = .ok (.aload_n 2, 1) := by decide +kernel
theorem dL_law_1465 : decode cL_law 1465 = .ok (.aload_n 0, 1) := by decide +kernel
theorem dL_law_1466 : decode cL_law 1466 = .ok (.iload 5, 2) := by decide +kernel
theorem dL_law_1468 : decode cL_law 1468 = .ok (.iconst 1, 1) := by decide +kernel
theorem dL_law_1469 : decode cL_law 1469 = .ok (.iadd, 1) := by decide +kernel
theorem dL_law_1470 : decode cL_law 1470 = .ok (.iaload, 1) := by decide +kernel
theorem dL_law_1471 : decode cL_law 1471 = .ok (.invokevirtual 215, 3) := by decide +kernel
theorem dL_law_1474 : decode cL_law 1474 = .ok (.istore 7, 2) := by decide +kernel
theorem dL_law_1476 : decode cL_law 1476 = .ok (.aload_n 2, 1) := by decide +kernel
theorem dL_law_1477 : decode cL_law 1477 = .ok (.invokevirtual 100, 3) := by decide +kernel
theorem dL_law_1480 : decode cL_law 1480 = .ok (.iload 6, 2) := by decide +kernel
theorem dL_law_1482 : decode cL_law 1482 = .ok (.if_icmp .eq 5, 3) := by decide +kernel
theorem dL_law_1487 : decode cL_law 1487 = .ok (.iload 6, 2) := by decide +kernel
theorem dL_law_1489 : decode cL_law 1489 = .ok (.ifCond .ne 15, 3) := by decide +kernel
theorem dL_law_1504 : decode cL_law 1504 = .ok (.goto 180, 3) := by decide +kernel
theorem dL_law_1507 : decode cL_law 1507 = .ok (.aload_n 1, 1) := by decide +kernel
theorem dL_law_1508 : decode cL_law 1508 = .ok (.aload_n 0, 1) := by decide +kernel
theorem dL_law_1509 : decode cL_law 1509 = .ok (.iload 5, 2) := by decide +kernel
theorem dL_law_1511 : decode cL_law 1511 = .ok (.iconst 1, 1) := by decide +kernel
theorem dL_law_1512 : decode cL_law 1512 = .ok (.iadd, 1) := by decide +kernel
theorem dL_law_1513 : decode cL_law 1513 = .ok (.iaload, 1) := by decide +kernel
theorem dL_law_1514 : decode cL_law 1514 = .ok (.aload_n 3, 1) := by decide +kernel
theorem dL_law_1515 : decode cL_law 1515 = .ok (.invokestatic 216, 3) := by decide +kernel
theorem dL_law_1518 : decode cL_law 1518 = .ok (.istore 6, 2) := by decide +kernel
theorem dL_law_1520 : decode cL_law 1520 = .ok (.aload_n 2, 1) := by decide +kernel
theorem dL_law_1521 : decode cL_law 1521 = .ok (.aload_n 0, 1) := by decide +kernel
theorem dL_law_1522 : decode cL_law 1522 = .ok (.iload 5, 2) := by decide +kernel
theorem dL_law_1524 : decode cL_law 1524 = .ok (.iconst 1, 1) := by decide +kernel
theorem dL_law_1525 : decode cL_law 1525 = .ok (.iadd, 1) := by decide +kernel
theorem dL_law_1526 : decode cL_law 1526 = .ok (.iaload, 1) := by decide +kernel
theorem dL_law_1527 : decode cL_law 1527 = .ok (.invokevirtual 218, 3) := by decide +kernel
theorem dL_law_1530 : decode cL_law 1530 = .ok (.istore 7, 2) := by decide +kernel
theorem dL_law_1532 : decode cL_law 1532 = .ok (.aload_n 2, 1) := by decide +kernel
theorem dL_law_1533 : decode cL_law 1533 = .ok (.invokevirtual 100, 3) := by decide +kernel
theorem dL_law_1536 : decode cL_law 1536 = .ok (.iload 6, 2) := by decide +kernel
theorem dL_law_1538 : decode cL_law 1538 = .ok (.if_icmp .eq 5, 3) := by decide +kernel
theorem dL_law_1543 : decode cL_law 1543 = .ok (.iload 6, 2) := by decide +kernel
theorem dL_law_1545 : decode cL_law 1545 = .ok (.ifCond .ne 15, 3) := by decide +kernel
theorem dL_law_1560 : decode cL_law 1560 = .ok (.goto 124, 3) := by decide +kernel
set_option maxHeartbeats 8000000 in
set_option maxRecDepth 100000 in
theorem la_order_b {p : Program} {l : Launch} {e : Env} {s : State} {m : MethodId} {below : List Frame} {meth : Method} {c : Code} {dC : Nat → ClassId} {dI : Nat → Nat → Nat} {z zK zV : Nat → Nat} {b : Nat} {xs : Nat → Int32} {A : Nat → Prop} (hst : l.stackTraces = false) (C0 : lw_At p s m meth c b 4 xs) (hM : am z zK zV A s s.heap) (hA : ∀ q : Nat, s.heap.size ≤ q → A q) (hAl : ∀ q : Nat, A q → s.heap.size ≤ q) (sh : Nat) (rg : Nat) (mf : Nat) (mm : Nat) (mz : Nat) (ma : Nat) (sa : Nat) (dk : Nat) (w0 : Nat) (w1 : Nat) (ol : Nat) (hd : Nat) (lg : Nat) (pl : Nat) (pr : Nat) (x : Nat) (tl : Nat) (tw : Nat) (p1 : Int32) (p2 : Int32) (mo : Nat) (ti : Nat) (si : Nat) (lo : Nat) (lh : Nat) (lk : Nat) (sp : Nat) (st : Nat) (pa : Nat) (br : Nat) (sg : Nat) (ou : Nat) (co : ClassId) (of_ : Nat → Int64) (od_ : Nat) (rw : Int32) (hg0 : ((0 : Int32) ≤ p1 ∧ p1 ≤ 2) ∧ (-4 : Int32) ≤ p2 ∧ p2 ≤ 4) (hs1 : xs 1 = rw) (hs2 : xs 2 = p1) (hs3 : xs 3 = p2) (hch : (rw.toUInt32 % 65536).toInt32 = 98) (H : Heap) (locs : List Loc) (hK : va_K (dC, dI) vwCl [(co, .long)] s) (hP : va_P (dC, dI) vwCl [(x, .inr (15, [.ref sh, .ref tl, .ref tw, .int 0])), (tl, .inr (3, [.int 0, .ref (z 0), .int 0])), (sh, .inr (13, [.ref rg, .ref dk, .ref hd, .ref lg, .ref pl, .ref pr, .int 0, .int 0, .int 0, .int 0, .int 0, .int 0, .int 0, .int 0, .int 0, .int 0, .int 0])), (rg, .inr (11, [.ref mf, .ref mm, .ref mz, .ref ma, .ref sa, .int 0])), (dk, .inr (4, [.ref w0, .ref w1, .ref ol, .int 0, .int 0, .int 0, .int 0])), (ol, .inr (3, [.int 0, .ref (z 0), .int 0])), (mo, .inr (19, [.int 0, .int 0, .int 0, .int 0, .int 0, .int 0, .int 0, .ref ti, .ref si, .ref lo, .ref lh, .ref lk, .ref sp, .ref st, .ref pa, .ref br, .ref sg, .int 0, .int 0, .int 0, .int 0, .int 0, .int 0, .long 0, .long 0, .long 0, .long 0, .int 0])), (lo, .inr (3, [.int 0, .ref (z 0), .int 0])), (ou, .inl (co, 1, .inr (.inl of_)))] H) (hD : va_D A [(x, .inr (15, [.ref sh, .ref tl, .ref tw, .int 0])), (tl, .inr (3, [.int 0, .ref (z 0), .int 0])), (sh, .inr (13, [.ref rg, .ref dk, .ref hd, .ref lg, .ref pl, .ref pr, .int 0, .int 0, .int 0, .int 0, .int 0, .int 0, .int 0, .int 0, .int 0, .int 0, .int 0])), (rg, .inr (11, [.ref mf, .ref mm, .ref mz, .ref ma, .ref sa, .int 0])), (dk, .inr (4, [.ref w0, .ref w1, .ref ol, .int 0, .int 0, .int 0, .int 0])), (ol, .inr (3, [.int 0, .ref (z 0), .int 0])), (mo, .inr (19, [.int 0, .int 0, .int 0, .int 0, .int 0, .int 0, .int 0, .ref ti, .ref si, .ref lo, .ref lh, .ref lk, .ref sp, .ref st, .ref pa, .ref br, .ref sg, .int 0, .int 0, .int 0, .int 0, .int 0, .int 0, .long 0, .long 0, .long 0, .long 0, .int 0])), (lo, .inr (3, [.int 0, .ref (z 0), .int 0])), (ou, .inl (co, 1, .inr (.inl of_)))]) (hS : va_S A s.heap H locs) (ls : Array Slot) (hl : lv_has ls 10 [(0, .ref b), (1, .ref x), (2, .ref mo), (3, .ref ou), (4, .ref od_), (5, .int 0)]) : W p l e room_1 s m #[Value.ref b] below meth c H locs 100 1400 (lw_Z below #[Value.ref b] s) (F0 m 403 ls []) := by
  obtain ⟨hx, hb, hr, hml, hown, hts, hX, hbl, hlocks, hgv⟩ := id C0
  have hbA : ¬ A b := fun h => absurd (hAl b h) (Nat.not_le.mpr hbl)
  refine lv_aload_n hx hb dL_law_403 rfl (lv_at hl 1 rfl) ?_
  refine lv_aload_n hx hb dL_law_404 rfl (lv_at hl 0 rfl) ?_
  refine lv_iload hx hb dL_law_405 (lv_at hl 5 rfl) ?_
  refine lv_iconst (v := 1) hx hb dL_law_407 (by decide) ?_
  refine lv_iadd hx hb dL_law_408 ?_
  refine kc_i (y := 1) (by decide +kernel) ?_
  refine va_sld hx hb hX hbl hbA hS (pk_in 1 4 (by decide) rfl) dL_law_409 ?_
  refine kc_i (y := rw) (hs1 : xs 1 = rw) ?_
  refine lv_i2c (v := 98) hx hb dL_law_410 hch ?_
  refine lv_aload_n hx hb dL_law_411 rfl (lv_at hl 0 rfl) ?_
  refine lv_iload hx hb dL_law_412 (lv_at hl 5 rfl) ?_
  refine lv_iconst (v := 2) hx hb dL_law_414 (by decide) ?_
  refine lv_iadd hx hb dL_law_415 ?_
  refine kc_i (y := 2) (by decide +kernel) ?_
  refine va_sld hx hb hX hbl hbA hS (pk_in 2 4 (by decide) rfl) dL_law_416 ?_
  refine kc_i (y := p1) (hs2 : xs 2 = p1) ?_
  refine lv_aload_n hx hb dL_law_417 rfl (lv_at hl 0 rfl) ?_
  refine lv_iload hx hb dL_law_418 (lv_at hl 5 rfl) ?_
  refine lv_iconst (v := 3) hx hb dL_law_420 (by decide) ?_
  refine lv_iadd hx hb dL_law_421 ?_
  refine kc_i (y := 3) (by decide +kernel) ?_
  refine va_sld hx hb hX hbl hbA hS (pk_in 3 4 (by decide) rfl) dL_law_422 ?_
  refine kc_i (y := p2) (hs3 : xs 3 = p2) ?_
  refine lv_aload_n hx hb dL_law_423 rfl (lv_at hl 3 rfl) ?_
  have hPc := hP.sub (ws' := [(x, .inr (15, [.ref sh, .ref tl, .ref tw, .int 0])), (tl, .inr (3, [.int 0, .ref (z 0), .int 0])), (sh, .inr (13, [.ref rg, .ref dk, .ref hd, .ref lg, .ref pl, .ref pr, .int 0, .int 0, .int 0, .int 0, .int 0, .int 0, .int 0, .int 0, .int 0, .int 0, .int 0])), (dk, .inr (4, [.ref w0, .ref w1, .ref ol, .int 0, .int 0, .int 0, .int 0])), (ol, .inr (3, [.int 0, .ref (z 0), .int 0])), (rg, .inr (11, [.ref mf, .ref mm, .ref mz, .ref ma, .ref sa, .int 0])), (ou, .inl (co, 1, .inr (.inl of_)))]) [0, 1, 2, 4, 5, 3, 8] rfl
  have hDc := hD.sub (ws' := [(x, .inr (15, [.ref sh, .ref tl, .ref tw, .int 0])), (tl, .inr (3, [.int 0, .ref (z 0), .int 0])), (sh, .inr (13, [.ref rg, .ref dk, .ref hd, .ref lg, .ref pl, .ref pr, .int 0, .int 0, .int 0, .int 0, .int 0, .int 0, .int 0, .int 0, .int 0, .int 0, .int 0])), (dk, .inr (4, [.ref w0, .ref w1, .ref ol, .int 0, .int 0, .int 0, .int 0])), (ol, .inr (3, [.int 0, .ref (z 0), .int 0])), (rg, .inr (11, [.ref mf, .ref mm, .ref mz, .ref ma, .ref sa, .int 0])), (ou, .inl (co, 1, .inr (.inl of_)))]) [0, 1, 2, 4, 5, 3, 8] (by decide) rfl
  have hKc := hK.sub (tys' := [(co, .long)]) [0] rfl
  have hFc := va_free (wc := [(x, .inr (15, [.ref sh, .ref tl, .ref tw, .int 0])), (tl, .inr (3, [.int 0, .ref (z 0), .int 0])), (sh, .inr (13, [.ref rg, .ref dk, .ref hd, .ref lg, .ref pl, .ref pr, .int 0, .int 0, .int 0, .int 0, .int 0, .int 0, .int 0, .int 0, .int 0, .int 0, .int 0])), (dk, .inr (4, [.ref w0, .ref w1, .ref ol, .int 0, .int 0, .int 0, .int 0])), (ol, .inr (3, [.int 0, .ref (z 0), .int 0])), (rg, .inr (11, [.ref mf, .ref mm, .ref mz, .ref ma, .ref sa, .int 0])), (ou, .inl (co, 1, .inr (.inl of_)))]) hD hS hA [0, 1, 2, 4, 5, 3, 8] rfl
  refine va_calli (vx_runSW (As := [.ref x, .int 98, .int p1, .int p2, .ref ou]) (rest := []) ⟨hx, hb, hml, hown, hts⟩ (k_l_order_b l dC dI z zK zV sh rg mf mm mz ma sa dk w0 w1 ol hd lg pl pr x tl tw p1 p2 ou co of_ H.size (hg0)) (vx_cwSW 5 hts hL_L_order_110 rfl rfl rfl (by decide +kernel) ⟨Nat.le_of_ble_eq_true rfl, Nat.le_of_ble_eq_true rfl⟩) ⟨kP_blind, kP_go hPc hKc hDc hFc hM hS⟩ rfl rfl hl.1 rfl (lv_room (Nat.le_of_ble_eq_true rfl)) dL_law_424 ⟨Nat.le_of_ble_eq_true rfl, Nat.le_of_ble_eq_true rfl⟩) hS (fun q _ h => hFc q h) hFc (fun r1 u t H1 locs ht hvm hw hB hz1 hk1 hS => ?_)
  obtain ⟨hP, hD, hK⟩ := kJ (wr := [(mo, .inr (19, [.int 0, .int 0, .int 0, .int 0, .int 0, .int 0, .int 0, .ref ti, .ref si, .ref lo, .ref lh, .ref lk, .ref sp, .ref st, .ref pa, .ref br, .ref sg, .int 0, .int 0, .int 0, .int 0, .int 0, .int 0, .long 0, .long 0, .long 0, .long 0, .int 0])), (lo, .inr (3, [.int 0, .ref (z 0), .int 0]))]) (w1 := [(ou, .inl (co, 1, .inr (.inl (vp_updL of_ 0 0))))]) (t1 := []) hP hD hK [0, 1, 2, 4, 5, 3, 8] [6, 7] rfl rfl (by decide) (by decide) hk1 hFc ht hvm hB
  generalize H1 = H at hP hS ⊢
  have hP : va_P (dC, dI) vwCl [(mo, .inr (19, [.int 0, .int 0, .int 0, .int 0, .int 0, .int 0, .int 0, .ref ti, .ref si, .ref lo, .ref lh, .ref lk, .ref sp, .ref st, .ref pa, .ref br, .ref sg, .int 0, .int 0, .int 0, .int 0, .int 0, .int 0, .long 0, .long 0, .long 0, .long 0, .int 0])), (lo, .inr (3, [.int 0, .ref (z 0), .int 0])), (ou, .inl (co, 1, .inr (.inl (vp_updL of_ 0 0))))] H := hP
  have hD : va_D A [(mo, .inr (19, [.int 0, .int 0, .int 0, .int 0, .int 0, .int 0, .int 0, .ref ti, .ref si, .ref lo, .ref lh, .ref lk, .ref sp, .ref st, .ref pa, .ref br, .ref sg, .int 0, .int 0, .int 0, .int 0, .int 0, .int 0, .long 0, .long 0, .long 0, .long 0, .int 0])), (lo, .inr (3, [.int 0, .ref (z 0), .int 0])), (ou, .inl (co, 1, .inr (.inl (vp_updL of_ 0 0))))] := hD
  have hK : va_K (dC, dI) vwCl [(co, .long)] s := hK
  obtain rfl : 0 = r1 := hw
  refine lv_istore (lv' := [(6, .int 0), (0, .ref b), (1, .ref x), (2, .ref mo), (3, .ref ou), (4, .ref od_), (5, .int 0)]) hx hb dL_law_427 hl (by decide) rfl (fun ls hl => ?_)
  refine lv_aload_n hx hb dL_law_429 rfl (lv_at hl 3 rfl) ?_
  refine lv_aload_n hx hb dL_law_430 rfl (lv_at hl 1 rfl) ?_
  refine lv_iload hx hb dL_law_431 (lv_at hl 6 rfl) ?_
  refine lv_iconst (v := 1) hx hb dL_law_433 (by decide) ?_
  refine lv_iadd hx hb dL_law_434 ?_
  refine kc_i (y := 1) (by decide +kernel) ?_
  refine va_sld hx hb hX hbl hbA hS (pk_in 1 4 (by decide) rfl) dL_law_435 ?_
  refine kc_i (y := rw) (hs1 : xs 1 = rw) ?_
  refine lv_i2c (v := 98) hx hb dL_law_436 hch ?_
  refine lv_aload_n hx hb dL_law_437 rfl (lv_at hl 1 rfl) ?_
  refine lv_iload hx hb dL_law_438 (lv_at hl 6 rfl) ?_
  refine lv_iconst (v := 2) hx hb dL_law_440 (by decide) ?_
  refine lv_iadd hx hb dL_law_441 ?_
  refine kc_i (y := 2) (by decide +kernel) ?_
  refine va_sld hx hb hX hbl hbA hS (pk_in 2 4 (by decide) rfl) dL_law_442 ?_
  refine kc_i (y := p1) (hs2 : xs 2 = p1) ?_
  refine lv_aload_n hx hb dL_law_443 rfl (lv_at hl 1 rfl) ?_
  refine lv_iload hx hb dL_law_444 (lv_at hl 6 rfl) ?_
  refine lv_iconst (v := 3) hx hb dL_law_446 (by decide) ?_
  refine lv_iadd hx hb dL_law_447 ?_
  refine kc_i (y := 3) (by decide +kernel) ?_
  refine va_sld hx hb hX hbl hbA hS (pk_in 3 4 (by decide) rfl) dL_law_448 ?_
  refine kc_i (y := p2) (hs3 : xs 3 = p2) ?_
  have hPc := hP.sub (ws' := [(mo, .inr (19, [.int 0, .int 0, .int 0, .int 0, .int 0, .int 0, .int 0, .ref ti, .ref si, .ref lo, .ref lh, .ref lk, .ref sp, .ref st, .ref pa, .ref br, .ref sg, .int 0, .int 0, .int 0, .int 0, .int 0, .int 0, .long 0, .long 0, .long 0, .long 0, .int 0])), (lo, .inr (3, [.int 0, .ref (z 0), .int 0]))]) [0, 1] rfl
  have hDc := hD.sub (ws' := [(mo, .inr (19, [.int 0, .int 0, .int 0, .int 0, .int 0, .int 0, .int 0, .ref ti, .ref si, .ref lo, .ref lh, .ref lk, .ref sp, .ref st, .ref pa, .ref br, .ref sg, .int 0, .int 0, .int 0, .int 0, .int 0, .int 0, .long 0, .long 0, .long 0, .long 0, .int 0])), (lo, .inr (3, [.int 0, .ref (z 0), .int 0]))]) [0, 1] (by decide) rfl
  have hKc := hK.sub (tys' := []) [] rfl
  have hFc := va_free (wc := [(mo, .inr (19, [.int 0, .int 0, .int 0, .int 0, .int 0, .int 0, .int 0, .ref ti, .ref si, .ref lo, .ref lh, .ref lk, .ref sp, .ref st, .ref pa, .ref br, .ref sg, .int 0, .int 0, .int 0, .int 0, .int 0, .int 0, .long 0, .long 0, .long 0, .long 0, .int 0])), (lo, .inr (3, [.int 0, .ref (z 0), .int 0]))]) hD hS hA [0, 1] rfl
  refine va_calli (va_runV (As := [.int 98, .int p1, .int p2]) (rest := []) ⟨hx, hb, hml, hown, hts⟩ (k_m_order_b l dC dI z zK zV p1 p2 mo ti si lo lh lk sp st pa br sg 0 H.size (hg0)) (cwV 3 hts hL_X15_order_113 rfl rfl rfl (by decide +kernel) ⟨Nat.le_of_ble_eq_true rfl, Nat.le_of_ble_eq_true rfl⟩) ⟨kP_blind, va_recv hKc hPc (ci := 19) (q0 := 0) rfl rfl, kP_go hPc hKc hDc hFc hM hS⟩ rfl rfl hl.1 rfl (lv_room (Nat.le_of_ble_eq_true rfl)) dL_law_449 ⟨Nat.le_of_ble_eq_true rfl, Nat.le_of_ble_eq_true rfl⟩) hS (fun q _ h => hFc q h) hFc (fun r2 u t H1 locs ht hvm hw hB hz1 hk1 hS => ?_)
  obtain ⟨hP, hD, hK⟩ := kJ (wr := [(ou, .inl (co, 1, .inr (.inl (vp_updL of_ 0 0))))]) (w1 := [(mo, .inr (19, [.int 0, .int 0, .int 0, .int 0, .int 0, .int 0, .int 0, .ref ti, .ref si, .ref lo, .ref lh, .ref lk, .ref sp, .ref st, .ref pa, .ref br, .ref sg, .int 0, .int 0, .int 0, .int 0, .int 0, .int 0, .long 0, .long 0, .long 0, .long 0, .int 0]))]) (t1 := []) hP hD hK [0, 1] [2] rfl rfl (by decide) (by decide) hk1 hFc ht hvm hB
  generalize H1 = H at hP hS ⊢
  have hP : va_P (dC, dI) vwCl [(ou, .inl (co, 1, .inr (.inl (vp_updL of_ 0 0)))), (mo, .inr (19, [.int 0, .int 0, .int 0, .int 0, .int 0, .int 0, .int 0, .ref ti, .ref si, .ref lo, .ref lh, .ref lk, .ref sp, .ref st, .ref pa, .ref br, .ref sg, .int 0, .int 0, .int 0, .int 0, .int 0, .int 0, .long 0, .long 0, .long 0, .long 0, .int 0]))] H := hP
  have hD : va_D A [(ou, .inl (co, 1, .inr (.inl (vp_updL of_ 0 0)))), (mo, .inr (19, [.int 0, .int 0, .int 0, .int 0, .int 0, .int 0, .int 0, .ref ti, .ref si, .ref lo, .ref lh, .ref lk, .ref sp, .ref st, .ref pa, .ref br, .ref sg, .int 0, .int 0, .int 0, .int 0, .int 0, .int 0, .long 0, .long 0, .long 0, .long 0, .int 0]))] := hD
  have hK : va_K (dC, dI) vwCl [(co, .long)] s := hK
  obtain rfl : 0 = r2 := hw
  refine lv_istore (lv' := [(7, .int 0), (6, .int 0), (0, .ref b), (1, .ref x), (2, .ref mo), (3, .ref ou), (4, .ref od_), (5, .int 0)]) hx hb dL_law_452 hl (by decide) rfl (fun ls hl => ?_)
  refine lv_aload_n hx hb dL_law_454 rfl (lv_at hl 4 rfl) ?_
  have hPc := hP.sub (ws' := [(mo, .inr (19, [.int 0, .int 0, .int 0, .int 0, .int 0, .int 0, .int 0, .ref ti, .ref si, .ref lo, .ref lh, .ref lk, .ref sp, .ref st, .ref pa, .ref br, .ref sg, .int 0, .int 0, .int 0, .int 0, .int 0, .int 0, .long 0, .long 0, .long 0, .long 0, .int 0]))]) [1] rfl
  have hDc := hD.sub (ws' := [(mo, .inr (19, [.int 0, .int 0, .int 0, .int 0, .int 0, .int 0, .int 0, .ref ti, .ref si, .ref lo, .ref lh, .ref lk, .ref sp, .ref st, .ref pa, .ref br, .ref sg, .int 0, .int 0, .int 0, .int 0, .int 0, .int 0, .long 0, .long 0, .long 0, .long 0, .int 0]))]) [1] (by decide) rfl
  have hKc := hK.sub (tys' := []) [] rfl
  have hFc := va_free (wc := [(mo, .inr (19, [.int 0, .int 0, .int 0, .int 0, .int 0, .int 0, .int 0, .ref ti, .ref si, .ref lo, .ref lh, .ref lk, .ref sp, .ref st, .ref pa, .ref br, .ref sg, .int 0, .int 0, .int 0, .int 0, .int 0, .int 0, .long 0, .long 0, .long 0, .long 0, .int 0]))]) hD hS hA [1] rfl
  refine va_calli (va_runV (As := []) (rest := []) ⟨hx, hb, hml, hown, hts⟩ (k_m_thrown l dC dI z zK zV mo ti si lo lh lk sp st pa br sg 0 0 0 0 0 0 0 0 0 0 0 0 0 0 0 0 0 0 H.size) (cwV 0 hts hL_X15_thrown_100 rfl rfl rfl (by decide +kernel) ⟨Nat.le_of_ble_eq_true rfl, Nat.le_of_ble_eq_true rfl⟩) ⟨kP_blind, va_recv hKc hPc (ci := 19) (q0 := 0) rfl rfl, kP_go hPc hKc hDc hFc hM hS⟩ rfl rfl hl.1 rfl (lv_room (Nat.le_of_ble_eq_true rfl)) dL_law_455 ⟨Nat.le_of_ble_eq_true rfl, Nat.le_of_ble_eq_true rfl⟩) hS (fun q _ h => hFc q h) hFc (fun r3 u t H1 locs ht hvm hw hB hz1 hk1 hS => ?_)
  obtain ⟨hP, hD, hK⟩ := kJ (wr := [(ou, .inl (co, 1, .inr (.inl (vp_updL of_ 0 0))))]) (w1 := [(mo, .inr (19, [.int 0, .int 0, .int 0, .int 0, .int 0, .int 0, .int 0, .ref ti, .ref si, .ref lo, .ref lh, .ref lk, .ref sp, .ref st, .ref pa, .ref br, .ref sg, .int 0, .int 0, .int 0, .int 0, .int 0, .int 0, .long 0, .long 0, .long 0, .long 0, .int 0]))]) (t1 := []) hP hD hK [1] [0] rfl rfl (by decide) (by decide) hk1 hFc ht hvm hB
  generalize H1 = H at hP hS ⊢
  have hP : va_P (dC, dI) vwCl [(ou, .inl (co, 1, .inr (.inl (vp_updL of_ 0 0)))), (mo, .inr (19, [.int 0, .int 0, .int 0, .int 0, .int 0, .int 0, .int 0, .ref ti, .ref si, .ref lo, .ref lh, .ref lk, .ref sp, .ref st, .ref pa, .ref br, .ref sg, .int 0, .int 0, .int 0, .int 0, .int 0, .int 0, .long 0, .long 0, .long 0, .long 0, .int 0]))] H := hP
  have hD : va_D A [(ou, .inl (co, 1, .inr (.inl (vp_updL of_ 0 0)))), (mo, .inr (19, [.int 0, .int 0, .int 0, .int 0, .int 0, .int 0, .int 0, .ref ti, .ref si, .ref lo, .ref lh, .ref lk, .ref sp, .ref st, .ref pa, .ref br, .ref sg, .int 0, .int 0, .int 0, .int 0, .int 0, .int 0, .long 0, .long 0, .long 0, .long 0, .int 0]))] := hD
  have hK : va_K (dC, dI) vwCl [(co, .long)] s := hK
  obtain rfl : 0 = r3 := hw
  refine lv_iload hx hb dL_law_458 (lv_at hl 1 rfl) ?_
  refine lv_icmp_eq (tgt := 465) hx hb dL_law_460 (by decide) (fun _ => ?_) (fun c_ => absurd (by decide +kernel) c_)
  refine lv_iload hx hb dL_law_465 (lv_at hl 1 rfl) ?_
  refine lv_if_ne (tgt := 482) hx hb dL_law_467 (by decide) (fun c_ => absurd (by decide +kernel) c_) (fun _ => ?_)
  refine lv_aload_n hx hb dL_law_470 rfl (lv_at hl 5 rfl) ?_
  refine lv_iconst (v := 0) hx hb dL_law_471 (by decide) ?_
  refine va_lald hx hb hK hP 0 0 rfl rfl (pk_in 0 1 (by decide) rfl) dL_law_472 ?_
  refine kc_v (y := .long 0) rfl ?_
  refine lv_iload hx hb dL_law_473 (lv_at hl 0 rfl) ?_
  refine lv_i2l (v := 0) hx hb dL_law_475 (by decide +kernel) ?_
  refine W.lcmp hx hb dL_law_476 ?_
  refine kc_i (y := 0) (by decide +kernel) ?_
  refine lv_if_eq (tgt := 482) hx hb dL_law_477 (by decide) (fun _ => ?_) (fun c_ => absurd (by decide +kernel) c_)
  refine lv_goto (tgt := 1684) hx hb dL_law_482 (by decide) ?_
  exact la_tail (dC := dC) (dI := dI) hst C0 hM hA hAl H locs hS ls (lv_sub hl [2, 7] rfl) (by omega) (by omega)
set_option maxHeartbeats 8000000 in
set_option maxRecDepth 100000 in
theorem la_order_r {p : Program} {l : Launch} {e : Env} {s : State} {m : MethodId} {below : List Frame} {meth : Method} {c : Code} {dC : Nat → ClassId} {dI : Nat → Nat → Nat} {z zK zV : Nat → Nat} {b : Nat} {xs : Nat → Int32} {A : Nat → Prop} (hst : l.stackTraces = false) (C0 : lw_At p s m meth c b 4 xs) (hM : am z zK zV A s s.heap) (hA : ∀ q : Nat, s.heap.size ≤ q → A q) (hAl : ∀ q : Nat, A q → s.heap.size ≤ q) (sh : Nat) (rg : Nat) (mf : Nat) (mm : Nat) (mz : Nat) (ma : Nat) (sa : Nat) (dk : Nat) (w0 : Nat) (w1 : Nat) (ol : Nat) (hd : Nat) (lg : Nat) (pl : Nat) (pr : Nat) (x : Nat) (tl : Nat) (tw : Nat) (p1 : Int32) (mo : Nat) (ti : Nat) (si : Nat) (lo : Nat) (lh : Nat) (lk : Nat) (sp : Nat) (st : Nat) (pa : Nat) (br : Nat) (sg : Nat) (ou : Nat) (co : ClassId) (of_ : Nat → Int64) (od_ : Nat) (rw : Int32) (hg0 : (0 : Int32) ≤ p1 ∧ p1 ≤ 2) (hs1 : xs 1 = rw) (hs2 : xs 2 = p1) (hs3 : xs 3 = 0) (hch : (rw.toUInt32 % 65536).toInt32 = 114) (H : Heap) (locs : List Loc) (hK : va_K (dC, dI) vwCl [(co, .long)] s) (hP : va_P (dC, dI) vwCl [(x, .inr (15, [.ref sh, .ref tl, .ref tw, .int 0])), (tl, .inr (3, [.int 0, .ref (z 0), .int 0])), (sh, .inr (13, [.ref rg, .ref dk, .ref hd, .ref lg, .ref pl, .ref pr, .int 0, .int 0, .int 0, .int 0, .int 0, .int 0, .int 0, .int 0, .int 0, .int 0, .int 0])), (rg, .inr (11, [.ref mf, .ref mm, .ref mz, .ref ma, .ref sa, .int 0])), (dk, .inr (4, [.ref w0, .ref w1, .ref ol, .int 0, .int 0, .int 0, .int 0])), (ol, .inr (3, [.int 0, .ref (z 0), .int 0])), (mo, .inr (19, [.int 0, .int 0, .int 0, .int 0, .int 0, .int 0, .int 0, .ref ti, .ref si, .ref lo, .ref lh, .ref lk, .ref sp, .ref st, .ref pa, .ref br, .ref sg, .int 0, .int 0, .int 0, .int 0, .int 0, .int 0, .long 0, .long 0, .long 0, .long 0, .int 0])), (lo, .inr (3, [.int 0, .ref (z 0), .int 0])), (ou, .inl (co, 1, .inr (.inl of_)))] H) (hD : va_D A [(x, .inr (15, [.ref sh, .ref tl, .ref tw, .int 0])), (tl, .inr (3, [.int 0, .ref (z 0), .int 0])), (sh, .inr (13, [.ref rg, .ref dk, .ref hd, .ref lg, .ref pl, .ref pr, .int 0, .int 0, .int 0, .int 0, .int 0, .int 0, .int 0, .int 0, .int 0, .int 0, .int 0])), (rg, .inr (11, [.ref mf, .ref mm, .ref mz, .ref ma, .ref sa, .int 0])), (dk, .inr (4, [.ref w0, .ref w1, .ref ol, .int 0, .int 0, .int 0, .int 0])), (ol, .inr (3, [.int 0, .ref (z 0), .int 0])), (mo, .inr (19, [.int 0, .int 0, .int 0, .int 0, .int 0, .int 0, .int 0, .ref ti, .ref si, .ref lo, .ref lh, .ref lk, .ref sp, .ref st, .ref pa, .ref br, .ref sg, .int 0, .int 0, .int 0, .int 0, .int 0, .int 0, .long 0, .long 0, .long 0, .long 0, .int 0])), (lo, .inr (3, [.int 0, .ref (z 0), .int 0])), (ou, .inl (co, 1, .inr (.inl of_)))]) (hS : va_S A s.heap H locs) (ls : Array Slot) (hl : lv_has ls 10 [(0, .ref b), (1, .ref x), (2, .ref mo), (3, .ref ou), (4, .ref od_), (5, .int 0)]) : W p l e room_1 s m #[Value.ref b] below meth c H locs 100 1400 (lw_Z below #[Value.ref b] s) (F0 m 403 ls []) := by
  obtain ⟨hx, hb, hr, hml, hown, hts, hX, hbl, hlocks, hgv⟩ := id C0
  have hbA : ¬ A b := fun h => absurd (hAl b h) (Nat.not_le.mpr hbl)
  refine lv_aload_n hx hb dL_law_403 rfl (lv_at hl 1 rfl) ?_
  refine lv_aload_n hx hb dL_law_404 rfl (lv_at hl 0 rfl) ?_
  refine lv_iload hx hb dL_law_405 (lv_at hl 5 rfl) ?_
  refine lv_iconst (v := 1) hx hb dL_law_407 (by decide) ?_
  refine lv_iadd hx hb dL_law_408 ?_
  refine kc_i (y := 1) (by decide +kernel) ?_
  refine va_sld hx hb hX hbl hbA hS (pk_in 1 4 (by decide) rfl) dL_law_409 ?_
  refine kc_i (y := rw) (hs1 : xs 1 = rw) ?_
  refine lv_i2c (v := 114) hx hb dL_law_410 hch ?_
  refine lv_aload_n hx hb dL_law_411 rfl (lv_at hl 0 rfl) ?_
  refine lv_iload hx hb dL_law_412 (lv_at hl 5 rfl) ?_
  refine lv_iconst (v := 2) hx hb dL_law_414 (by decide) ?_
  refine lv_iadd hx hb dL_law_415 ?_
  refine kc_i (y := 2) (by decide +kernel) ?_
  refine va_sld hx hb hX hbl hbA hS (pk_in 2 4 (by decide) rfl) dL_law_416 ?_
  refine kc_i (y := p1) (hs2 : xs 2 = p1) ?_
  refine lv_aload_n hx hb dL_law_417 rfl (lv_at hl 0 rfl) ?_
  refine lv_iload hx hb dL_law_418 (lv_at hl 5 rfl) ?_
  refine lv_iconst (v := 3) hx hb dL_law_420 (by decide) ?_
  refine lv_iadd hx hb dL_law_421 ?_
  refine kc_i (y := 3) (by decide +kernel) ?_
  refine va_sld hx hb hX hbl hbA hS (pk_in 3 4 (by decide) rfl) dL_law_422 ?_
  refine kc_i (y := 0) (hs3 : xs 3 = 0) ?_
  refine lv_aload_n hx hb dL_law_423 rfl (lv_at hl 3 rfl) ?_
  have hPc := hP.sub (ws' := [(x, .inr (15, [.ref sh, .ref tl, .ref tw, .int 0])), (tl, .inr (3, [.int 0, .ref (z 0), .int 0])), (sh, .inr (13, [.ref rg, .ref dk, .ref hd, .ref lg, .ref pl, .ref pr, .int 0, .int 0, .int 0, .int 0, .int 0, .int 0, .int 0, .int 0, .int 0, .int 0, .int 0])), (dk, .inr (4, [.ref w0, .ref w1, .ref ol, .int 0, .int 0, .int 0, .int 0])), (ol, .inr (3, [.int 0, .ref (z 0), .int 0])), (rg, .inr (11, [.ref mf, .ref mm, .ref mz, .ref ma, .ref sa, .int 0])), (ou, .inl (co, 1, .inr (.inl of_)))]) [0, 1, 2, 4, 5, 3, 8] rfl
  have hDc := hD.sub (ws' := [(x, .inr (15, [.ref sh, .ref tl, .ref tw, .int 0])), (tl, .inr (3, [.int 0, .ref (z 0), .int 0])), (sh, .inr (13, [.ref rg, .ref dk, .ref hd, .ref lg, .ref pl, .ref pr, .int 0, .int 0, .int 0, .int 0, .int 0, .int 0, .int 0, .int 0, .int 0, .int 0, .int 0])), (dk, .inr (4, [.ref w0, .ref w1, .ref ol, .int 0, .int 0, .int 0, .int 0])), (ol, .inr (3, [.int 0, .ref (z 0), .int 0])), (rg, .inr (11, [.ref mf, .ref mm, .ref mz, .ref ma, .ref sa, .int 0])), (ou, .inl (co, 1, .inr (.inl of_)))]) [0, 1, 2, 4, 5, 3, 8] (by decide) rfl
  have hKc := hK.sub (tys' := [(co, .long)]) [0] rfl
  have hFc := va_free (wc := [(x, .inr (15, [.ref sh, .ref tl, .ref tw, .int 0])), (tl, .inr (3, [.int 0, .ref (z 0), .int 0])), (sh, .inr (13, [.ref rg, .ref dk, .ref hd, .ref lg, .ref pl, .ref pr, .int 0, .int 0, .int 0, .int 0, .int 0, .int 0, .int 0, .int 0, .int 0, .int 0, .int 0])), (dk, .inr (4, [.ref w0, .ref w1, .ref ol, .int 0, .int 0, .int 0, .int 0])), (ol, .inr (3, [.int 0, .ref (z 0), .int 0])), (rg, .inr (11, [.ref mf, .ref mm, .ref mz, .ref ma, .ref sa, .int 0])), (ou, .inl (co, 1, .inr (.inl of_)))]) hD hS hA [0, 1, 2, 4, 5, 3, 8] rfl
  refine va_calli (vx_runSW (As := [.ref x, .int 114, .int p1, .int 0, .ref ou]) (rest := []) ⟨hx, hb, hml, hown, hts⟩ (k_l_order_r l dC dI z zK zV sh rg mf mm mz ma sa dk w0 w1 ol hd lg pl pr x tl tw p1 ou co of_ H.size (hg0)) (vx_cwSW 5 hts hL_L_order_110 rfl rfl rfl (by decide +kernel) ⟨Nat.le_of_ble_eq_true rfl, Nat.le_of_ble_eq_true rfl⟩) ⟨kP_blind, kP_go hPc hKc hDc hFc hM hS⟩ rfl rfl hl.1 rfl (lv_room (Nat.le_of_ble_eq_true rfl)) dL_law_424 ⟨Nat.le_of_ble_eq_true rfl, Nat.le_of_ble_eq_true rfl⟩) hS (fun q _ h => hFc q h) hFc (fun r1 u t H1 locs ht hvm hw hB hz1 hk1 hS => ?_)
  obtain ⟨hP, hD, hK⟩ := kJ (wr := [(mo, .inr (19, [.int 0, .int 0, .int 0, .int 0, .int 0, .int 0, .int 0, .ref ti, .ref si, .ref lo, .ref lh, .ref lk, .ref sp, .ref st, .ref pa, .ref br, .ref sg, .int 0, .int 0, .int 0, .int 0, .int 0, .int 0, .long 0, .long 0, .long 0, .long 0, .int 0])), (lo, .inr (3, [.int 0, .ref (z 0), .int 0]))]) (w1 := [(ou, .inl (co, 1, .inr (.inl (vp_updL of_ 0 0))))]) (t1 := []) hP hD hK [0, 1, 2, 4, 5, 3, 8] [6, 7] rfl rfl (by decide) (by decide) hk1 hFc ht hvm hB
  generalize H1 = H at hP hS ⊢
  have hP : va_P (dC, dI) vwCl [(mo, .inr (19, [.int 0, .int 0, .int 0, .int 0, .int 0, .int 0, .int 0, .ref ti, .ref si, .ref lo, .ref lh, .ref lk, .ref sp, .ref st, .ref pa, .ref br, .ref sg, .int 0, .int 0, .int 0, .int 0, .int 0, .int 0, .long 0, .long 0, .long 0, .long 0, .int 0])), (lo, .inr (3, [.int 0, .ref (z 0), .int 0])), (ou, .inl (co, 1, .inr (.inl (vp_updL of_ 0 0))))] H := hP
  have hD : va_D A [(mo, .inr (19, [.int 0, .int 0, .int 0, .int 0, .int 0, .int 0, .int 0, .ref ti, .ref si, .ref lo, .ref lh, .ref lk, .ref sp, .ref st, .ref pa, .ref br, .ref sg, .int 0, .int 0, .int 0, .int 0, .int 0, .int 0, .long 0, .long 0, .long 0, .long 0, .int 0])), (lo, .inr (3, [.int 0, .ref (z 0), .int 0])), (ou, .inl (co, 1, .inr (.inl (vp_updL of_ 0 0))))] := hD
  have hK : va_K (dC, dI) vwCl [(co, .long)] s := hK
  obtain rfl : 0 = r1 := hw
  refine lv_istore (lv' := [(6, .int 0), (0, .ref b), (1, .ref x), (2, .ref mo), (3, .ref ou), (4, .ref od_), (5, .int 0)]) hx hb dL_law_427 hl (by decide) rfl (fun ls hl => ?_)
  refine lv_aload_n hx hb dL_law_429 rfl (lv_at hl 3 rfl) ?_
  refine lv_aload_n hx hb dL_law_430 rfl (lv_at hl 1 rfl) ?_
  refine lv_iload hx hb dL_law_431 (lv_at hl 6 rfl) ?_
  refine lv_iconst (v := 1) hx hb dL_law_433 (by decide) ?_
  refine lv_iadd hx hb dL_law_434 ?_
  refine kc_i (y := 1) (by decide +kernel) ?_
  refine va_sld hx hb hX hbl hbA hS (pk_in 1 4 (by decide) rfl) dL_law_435 ?_
  refine kc_i (y := rw) (hs1 : xs 1 = rw) ?_
  refine lv_i2c (v := 114) hx hb dL_law_436 hch ?_
  refine lv_aload_n hx hb dL_law_437 rfl (lv_at hl 1 rfl) ?_
  refine lv_iload hx hb dL_law_438 (lv_at hl 6 rfl) ?_
  refine lv_iconst (v := 2) hx hb dL_law_440 (by decide) ?_
  refine lv_iadd hx hb dL_law_441 ?_
  refine kc_i (y := 2) (by decide +kernel) ?_
  refine va_sld hx hb hX hbl hbA hS (pk_in 2 4 (by decide) rfl) dL_law_442 ?_
  refine kc_i (y := p1) (hs2 : xs 2 = p1) ?_
  refine lv_aload_n hx hb dL_law_443 rfl (lv_at hl 1 rfl) ?_
  refine lv_iload hx hb dL_law_444 (lv_at hl 6 rfl) ?_
  refine lv_iconst (v := 3) hx hb dL_law_446 (by decide) ?_
  refine lv_iadd hx hb dL_law_447 ?_
  refine kc_i (y := 3) (by decide +kernel) ?_
  refine va_sld hx hb hX hbl hbA hS (pk_in 3 4 (by decide) rfl) dL_law_448 ?_
  refine kc_i (y := 0) (hs3 : xs 3 = 0) ?_
  have hPc := hP.sub (ws' := [(mo, .inr (19, [.int 0, .int 0, .int 0, .int 0, .int 0, .int 0, .int 0, .ref ti, .ref si, .ref lo, .ref lh, .ref lk, .ref sp, .ref st, .ref pa, .ref br, .ref sg, .int 0, .int 0, .int 0, .int 0, .int 0, .int 0, .long 0, .long 0, .long 0, .long 0, .int 0])), (lo, .inr (3, [.int 0, .ref (z 0), .int 0]))]) [0, 1] rfl
  have hDc := hD.sub (ws' := [(mo, .inr (19, [.int 0, .int 0, .int 0, .int 0, .int 0, .int 0, .int 0, .ref ti, .ref si, .ref lo, .ref lh, .ref lk, .ref sp, .ref st, .ref pa, .ref br, .ref sg, .int 0, .int 0, .int 0, .int 0, .int 0, .int 0, .long 0, .long 0, .long 0, .long 0, .int 0])), (lo, .inr (3, [.int 0, .ref (z 0), .int 0]))]) [0, 1] (by decide) rfl
  have hKc := hK.sub (tys' := []) [] rfl
  have hFc := va_free (wc := [(mo, .inr (19, [.int 0, .int 0, .int 0, .int 0, .int 0, .int 0, .int 0, .ref ti, .ref si, .ref lo, .ref lh, .ref lk, .ref sp, .ref st, .ref pa, .ref br, .ref sg, .int 0, .int 0, .int 0, .int 0, .int 0, .int 0, .long 0, .long 0, .long 0, .long 0, .int 0])), (lo, .inr (3, [.int 0, .ref (z 0), .int 0]))]) hD hS hA [0, 1] rfl
  refine va_calli (va_runV (As := [.int 114, .int p1, .int 0]) (rest := []) ⟨hx, hb, hml, hown, hts⟩ (k_m_order_r l dC dI z zK zV p1 mo ti si lo lh lk sp st pa br sg 0 H.size (hg0)) (cwV 3 hts hL_X15_order_113 rfl rfl rfl (by decide +kernel) ⟨Nat.le_of_ble_eq_true rfl, Nat.le_of_ble_eq_true rfl⟩) ⟨kP_blind, va_recv hKc hPc (ci := 19) (q0 := 0) rfl rfl, kP_go hPc hKc hDc hFc hM hS⟩ rfl rfl hl.1 rfl (lv_room (Nat.le_of_ble_eq_true rfl)) dL_law_449 ⟨Nat.le_of_ble_eq_true rfl, Nat.le_of_ble_eq_true rfl⟩) hS (fun q _ h => hFc q h) hFc (fun r2 u t H1 locs ht hvm hw hB hz1 hk1 hS => ?_)
  obtain ⟨hP, hD, hK⟩ := kJ (wr := [(ou, .inl (co, 1, .inr (.inl (vp_updL of_ 0 0))))]) (w1 := [(mo, .inr (19, [.int 0, .int 0, .int 0, .int 0, .int 0, .int 0, .int 0, .ref ti, .ref si, .ref lo, .ref lh, .ref lk, .ref sp, .ref st, .ref pa, .ref br, .ref sg, .int 0, .int 0, .int 0, .int 0, .int 0, .int 0, .long 0, .long 0, .long 0, .long 0, .int 0]))]) (t1 := []) hP hD hK [0, 1] [2] rfl rfl (by decide) (by decide) hk1 hFc ht hvm hB
  generalize H1 = H at hP hS ⊢
  have hP : va_P (dC, dI) vwCl [(ou, .inl (co, 1, .inr (.inl (vp_updL of_ 0 0)))), (mo, .inr (19, [.int 0, .int 0, .int 0, .int 0, .int 0, .int 0, .int 0, .ref ti, .ref si, .ref lo, .ref lh, .ref lk, .ref sp, .ref st, .ref pa, .ref br, .ref sg, .int 0, .int 0, .int 0, .int 0, .int 0, .int 0, .long 0, .long 0, .long 0, .long 0, .int 0]))] H := hP
  have hD : va_D A [(ou, .inl (co, 1, .inr (.inl (vp_updL of_ 0 0)))), (mo, .inr (19, [.int 0, .int 0, .int 0, .int 0, .int 0, .int 0, .int 0, .ref ti, .ref si, .ref lo, .ref lh, .ref lk, .ref sp, .ref st, .ref pa, .ref br, .ref sg, .int 0, .int 0, .int 0, .int 0, .int 0, .int 0, .long 0, .long 0, .long 0, .long 0, .int 0]))] := hD
  have hK : va_K (dC, dI) vwCl [(co, .long)] s := hK
  obtain rfl : 0 = r2 := hw
  refine lv_istore (lv' := [(7, .int 0), (6, .int 0), (0, .ref b), (1, .ref x), (2, .ref mo), (3, .ref ou), (4, .ref od_), (5, .int 0)]) hx hb dL_law_452 hl (by decide) rfl (fun ls hl => ?_)
  refine lv_aload_n hx hb dL_law_454 rfl (lv_at hl 4 rfl) ?_
  have hPc := hP.sub (ws' := [(mo, .inr (19, [.int 0, .int 0, .int 0, .int 0, .int 0, .int 0, .int 0, .ref ti, .ref si, .ref lo, .ref lh, .ref lk, .ref sp, .ref st, .ref pa, .ref br, .ref sg, .int 0, .int 0, .int 0, .int 0, .int 0, .int 0, .long 0, .long 0, .long 0, .long 0, .int 0]))]) [1] rfl
  have hDc := hD.sub (ws' := [(mo, .inr (19, [.int 0, .int 0, .int 0, .int 0, .int 0, .int 0, .int 0, .ref ti, .ref si, .ref lo, .ref lh, .ref lk, .ref sp, .ref st, .ref pa, .ref br, .ref sg, .int 0, .int 0, .int 0, .int 0, .int 0, .int 0, .long 0, .long 0, .long 0, .long 0, .int 0]))]) [1] (by decide) rfl
  have hKc := hK.sub (tys' := []) [] rfl
  have hFc := va_free (wc := [(mo, .inr (19, [.int 0, .int 0, .int 0, .int 0, .int 0, .int 0, .int 0, .ref ti, .ref si, .ref lo, .ref lh, .ref lk, .ref sp, .ref st, .ref pa, .ref br, .ref sg, .int 0, .int 0, .int 0, .int 0, .int 0, .int 0, .long 0, .long 0, .long 0, .long 0, .int 0]))]) hD hS hA [1] rfl
  refine va_calli (va_runV (As := []) (rest := []) ⟨hx, hb, hml, hown, hts⟩ (k_m_thrown l dC dI z zK zV mo ti si lo lh lk sp st pa br sg 0 0 0 0 0 0 0 0 0 0 0 0 0 0 0 0 0 0 H.size) (cwV 0 hts hL_X15_thrown_100 rfl rfl rfl (by decide +kernel) ⟨Nat.le_of_ble_eq_true rfl, Nat.le_of_ble_eq_true rfl⟩) ⟨kP_blind, va_recv hKc hPc (ci := 19) (q0 := 0) rfl rfl, kP_go hPc hKc hDc hFc hM hS⟩ rfl rfl hl.1 rfl (lv_room (Nat.le_of_ble_eq_true rfl)) dL_law_455 ⟨Nat.le_of_ble_eq_true rfl, Nat.le_of_ble_eq_true rfl⟩) hS (fun q _ h => hFc q h) hFc (fun r3 u t H1 locs ht hvm hw hB hz1 hk1 hS => ?_)
  obtain ⟨hP, hD, hK⟩ := kJ (wr := [(ou, .inl (co, 1, .inr (.inl (vp_updL of_ 0 0))))]) (w1 := [(mo, .inr (19, [.int 0, .int 0, .int 0, .int 0, .int 0, .int 0, .int 0, .ref ti, .ref si, .ref lo, .ref lh, .ref lk, .ref sp, .ref st, .ref pa, .ref br, .ref sg, .int 0, .int 0, .int 0, .int 0, .int 0, .int 0, .long 0, .long 0, .long 0, .long 0, .int 0]))]) (t1 := []) hP hD hK [1] [0] rfl rfl (by decide) (by decide) hk1 hFc ht hvm hB
  generalize H1 = H at hP hS ⊢
  have hP : va_P (dC, dI) vwCl [(ou, .inl (co, 1, .inr (.inl (vp_updL of_ 0 0)))), (mo, .inr (19, [.int 0, .int 0, .int 0, .int 0, .int 0, .int 0, .int 0, .ref ti, .ref si, .ref lo, .ref lh, .ref lk, .ref sp, .ref st, .ref pa, .ref br, .ref sg, .int 0, .int 0, .int 0, .int 0, .int 0, .int 0, .long 0, .long 0, .long 0, .long 0, .int 0]))] H := hP
  have hD : va_D A [(ou, .inl (co, 1, .inr (.inl (vp_updL of_ 0 0)))), (mo, .inr (19, [.int 0, .int 0, .int 0, .int 0, .int 0, .int 0, .int 0, .ref ti, .ref si, .ref lo, .ref lh, .ref lk, .ref sp, .ref st, .ref pa, .ref br, .ref sg, .int 0, .int 0, .int 0, .int 0, .int 0, .int 0, .long 0, .long 0, .long 0, .long 0, .int 0]))] := hD
  have hK : va_K (dC, dI) vwCl [(co, .long)] s := hK
  obtain rfl : 0 = r3 := hw
  refine lv_iload hx hb dL_law_458 (lv_at hl 1 rfl) ?_
  refine lv_icmp_eq (tgt := 465) hx hb dL_law_460 (by decide) (fun _ => ?_) (fun c_ => absurd (by decide +kernel) c_)
  refine lv_iload hx hb dL_law_465 (lv_at hl 1 rfl) ?_
  refine lv_if_ne (tgt := 482) hx hb dL_law_467 (by decide) (fun c_ => absurd (by decide +kernel) c_) (fun _ => ?_)
  refine lv_aload_n hx hb dL_law_470 rfl (lv_at hl 5 rfl) ?_
  refine lv_iconst (v := 0) hx hb dL_law_471 (by decide) ?_
  refine va_lald hx hb hK hP 0 0 rfl rfl (pk_in 0 1 (by decide) rfl) dL_law_472 ?_
  refine kc_v (y := .long 0) rfl ?_
  refine lv_iload hx hb dL_law_473 (lv_at hl 0 rfl) ?_
  refine lv_i2l (v := 0) hx hb dL_law_475 (by decide +kernel) ?_
  refine W.lcmp hx hb dL_law_476 ?_
  refine kc_i (y := 0) (by decide +kernel) ?_
  refine lv_if_eq (tgt := 482) hx hb dL_law_477 (by decide) (fun _ => ?_) (fun c_ => absurd (by decide +kernel) c_)
  refine lv_goto (tgt := 1684) hx hb dL_law_482 (by decide) ?_
  exact la_tail (dC := dC) (dI := dI) hst C0 hM hA hAl H locs hS ls (lv_sub hl [2, 7] rfl) (by omega) (by omega)
set_option maxHeartbeats 8000000 in
set_option maxRecDepth 100000 in
theorem la_order_bad115 {p : Program} {l : Launch} {e : Env} {s : State} {m : MethodId} {below : List Frame} {meth : Method} {c : Code} {dC : Nat → ClassId} {dI : Nat → Nat → Nat} {z zK zV : Nat → Nat} {b : Nat} {xs : Nat → Int32} {A : Nat → Prop} (hst : l.stackTraces = false) (C0 : lw_At p s m meth c b 4 xs) (hM : am z zK zV A s s.heap) (hA : ∀ q : Nat, s.heap.size ≤ q → A q) (hAl : ∀ q : Nat, A q → s.heap.size ≤ q) (sh : Nat) (rg : Nat) (dk : Nat) (hd : Nat) (lg : Nat) (pl : Nat) (pr : Nat) (x : Nat) (tl : Nat) (tw : Nat) (p1 : Int32) (p2 : Int32) (mo : Nat) (ti : Nat) (si : Nat) (lo : Nat) (lh : Nat) (lk : Nat) (sp : Nat) (st : Nat) (pa : Nat) (br : Nat) (sg : Nat) (ou : Nat) (co : ClassId) (of_ : Nat → Int64) (od_ : Nat) (rw : Int32) (hb0 : ¬ kO 115 p1 p2) (hs1 : xs 1 = rw) (hs2 : xs 2 = p1) (hs3 : xs 3 = p2) (hch : (rw.toUInt32 % 65536).toInt32 = 115) (H : Heap) (locs : List Loc) (hK : va_K (dC, dI) vwCl [(co, .long)] s) (hP : va_P (dC, dI) vwCl [(x, .inr (15, [.ref sh, .ref tl, .ref tw, .int 0])), (sh, .inr (13, [.ref rg, .ref dk, .ref hd, .ref lg, .ref pl, .ref pr, .int 0, .int 0, .int 0, .int 0, .int 0, .int 0, .int 0, .int 0, .int 0, .int 0, .int 0])), (mo, .inr (19, [.int 0, .int 0, .int 0, .int 0, .int 0, .int 0, .int 0, .ref ti, .ref si, .ref lo, .ref lh, .ref lk, .ref sp, .ref st, .ref pa, .ref br, .ref sg, .int 0, .int 0, .int 0, .int 0, .int 0, .int 0, .long 0, .long 0, .long 0, .long 0, .int 0])), (ou, .inl (co, 1, .inr (.inl of_)))] H) (hD : va_D A [(x, .inr (15, [.ref sh, .ref tl, .ref tw, .int 0])), (sh, .inr (13, [.ref rg, .ref dk, .ref hd, .ref lg, .ref pl, .ref pr, .int 0, .int 0, .int 0, .int 0, .int 0, .int 0, .int 0, .int 0, .int 0, .int 0, .int 0])), (mo, .inr (19, [.int 0, .int 0, .int 0, .int 0, .int 0, .int 0, .int 0, .ref ti, .ref si, .ref lo, .ref lh, .ref lk, .ref sp, .ref st, .ref pa, .ref br, .ref sg, .int 0, .int 0, .int 0, .int 0, .int 0, .int 0, .long 0, .long 0, .long 0, .long 0, .int 0])), (ou, .inl (co, 1, .inr (.inl of_)))]) (hS : va_S A s.heap H locs) (ls : Array Slot) (hl : lv_has ls 10 [(0, .ref b), (1, .ref x), (2, .ref mo), (3, .ref ou), (4, .ref od_), (5, .int 0)]) : W p l e room_1 s m #[Value.ref b] below meth c H locs 100 1400 (lw_Z below #[Value.ref b] s) (F0 m 403 ls []) := by
  obtain ⟨hx, hb, hr, hml, hown, hts, hX, hbl, hlocks, hgv⟩ := id C0
  have hbA : ¬ A b := fun h => absurd (hAl b h) (Nat.not_le.mpr hbl)
  refine lv_aload_n hx hb dL_law_403 rfl (lv_at hl 1 rfl) ?_
  refine lv_aload_n hx hb dL_law_404 rfl (lv_at hl 0 rfl) ?_
  refine lv_iload hx hb dL_law_405 (lv_at hl 5 rfl) ?_
  refine lv_iconst (v := 1) hx hb dL_law_407 (by decide) ?_
  refine lv_iadd hx hb dL_law_408 ?_
  refine kc_i (y := 1) (by decide +kernel) ?_
  refine va_sld hx hb hX hbl hbA hS (pk_in 1 4 (by decide) rfl) dL_law_409 ?_
  refine kc_i (y := rw) (hs1 : xs 1 = rw) ?_
  refine lv_i2c (v := 115) hx hb dL_law_410 hch ?_
  refine lv_aload_n hx hb dL_law_411 rfl (lv_at hl 0 rfl) ?_
  refine lv_iload hx hb dL_law_412 (lv_at hl 5 rfl) ?_
  refine lv_iconst (v := 2) hx hb dL_law_414 (by decide) ?_
  refine lv_iadd hx hb dL_law_415 ?_
  refine kc_i (y := 2) (by decide +kernel) ?_
  refine va_sld hx hb hX hbl hbA hS (pk_in 2 4 (by decide) rfl) dL_law_416 ?_
  refine kc_i (y := p1) (hs2 : xs 2 = p1) ?_
  refine lv_aload_n hx hb dL_law_417 rfl (lv_at hl 0 rfl) ?_
  refine lv_iload hx hb dL_law_418 (lv_at hl 5 rfl) ?_
  refine lv_iconst (v := 3) hx hb dL_law_420 (by decide) ?_
  refine lv_iadd hx hb dL_law_421 ?_
  refine kc_i (y := 3) (by decide +kernel) ?_
  refine va_sld hx hb hX hbl hbA hS (pk_in 3 4 (by decide) rfl) dL_law_422 ?_
  refine kc_i (y := p2) (hs3 : xs 3 = p2) ?_
  refine lv_aload_n hx hb dL_law_423 rfl (lv_at hl 3 rfl) ?_
  have hPc := hP.sub (ws' := [(x, .inr (15, [.ref sh, .ref tl, .ref tw, .int 0])), (sh, .inr (13, [.ref rg, .ref dk, .ref hd, .ref lg, .ref pl, .ref pr, .int 0, .int 0, .int 0, .int 0, .int 0, .int 0, .int 0, .int 0, .int 0, .int 0, .int 0])), (ou, .inl (co, 1, .inr (.inl of_)))]) [0, 1, 3] rfl
  have hDc := hD.sub (ws' := [(x, .inr (15, [.ref sh, .ref tl, .ref tw, .int 0])), (sh, .inr (13, [.ref rg, .ref dk, .ref hd, .ref lg, .ref pl, .ref pr, .int 0, .int 0, .int 0, .int 0, .int 0, .int 0, .int 0, .int 0, .int 0, .int 0, .int 0])), (ou, .inl (co, 1, .inr (.inl of_)))]) [0, 1, 3] (by decide) rfl
  have hKc := hK.sub (tys' := [(co, .long)]) [0] rfl
  have hFc := va_free (wc := [(x, .inr (15, [.ref sh, .ref tl, .ref tw, .int 0])), (sh, .inr (13, [.ref rg, .ref dk, .ref hd, .ref lg, .ref pl, .ref pr, .int 0, .int 0, .int 0, .int 0, .int 0, .int 0, .int 0, .int 0, .int 0, .int 0, .int 0])), (ou, .inl (co, 1, .inr (.inl of_)))]) hD hS hA [0, 1, 3] rfl
  refine va_calli (vx_runSW (As := [.ref x, .int 115, .int p1, .int p2, .ref ou]) (rest := []) ⟨hx, hb, hml, hown, hts⟩ (k_l_order_bad l dC dI z zK zV sh rg dk hd lg pl pr x tl tw 115 p1 p2 ou co of_ H.size hst (hb0)) (vx_cwSW 5 hts hL_L_order_110 rfl rfl rfl (by decide +kernel) ⟨Nat.le_of_ble_eq_true rfl, Nat.le_of_ble_eq_true rfl⟩) ⟨kP_blind, kP_go hPc hKc hDc hFc hM hS⟩ rfl rfl hl.1 rfl (lv_room (Nat.le_of_ble_eq_true rfl)) dL_law_424 ⟨Nat.le_of_ble_eq_true rfl, Nat.le_of_ble_eq_true rfl⟩) hS (fun q _ h => hFc q h) hFc (fun r1 u t H1 locs ht hvm hw hB hz1 hk1 hS => ?_)
  obtain ⟨hP, hD, hK⟩ := kJ (wr := [(mo, .inr (19, [.int 0, .int 0, .int 0, .int 0, .int 0, .int 0, .int 0, .ref ti, .ref si, .ref lo, .ref lh, .ref lk, .ref sp, .ref st, .ref pa, .ref br, .ref sg, .int 0, .int 0, .int 0, .int 0, .int 0, .int 0, .long 0, .long 0, .long 0, .long 0, .int 0]))]) (w1 := []) (t1 := []) hP hD hK [0, 1, 3] [2] rfl rfl (by decide) (by decide) hk1 hFc ht hvm hB
  generalize H1 = H at hP hS ⊢
  have hP : va_P (dC, dI) vwCl [(mo, .inr (19, [.int 0, .int 0, .int 0, .int 0, .int 0, .int 0, .int 0, .ref ti, .ref si, .ref lo, .ref lh, .ref lk, .ref sp, .ref st, .ref pa, .ref br, .ref sg, .int 0, .int 0, .int 0, .int 0, .int 0, .int 0, .long 0, .long 0, .long 0, .long 0, .int 0]))] H := hP
  have hD : va_D A [(mo, .inr (19, [.int 0, .int 0, .int 0, .int 0, .int 0, .int 0, .int 0, .ref ti, .ref si, .ref lo, .ref lh, .ref lk, .ref sp, .ref st, .ref pa, .ref br, .ref sg, .int 0, .int 0, .int 0, .int 0, .int 0, .int 0, .long 0, .long 0, .long 0, .long 0, .int 0]))] := hD
  have hK : va_K (dC, dI) vwCl [(co, .long)] s := hK
  obtain rfl : 1 = r1 := hw
  refine lv_istore (lv' := [(6, .int 1), (0, .ref b), (1, .ref x), (2, .ref mo), (3, .ref ou), (4, .ref od_), (5, .int 0)]) hx hb dL_law_427 hl (by decide) rfl (fun ls hl => ?_)
  refine lv_aload_n hx hb dL_law_429 rfl (lv_at hl 3 rfl) ?_
  refine lv_aload_n hx hb dL_law_430 rfl (lv_at hl 1 rfl) ?_
  refine lv_iload hx hb dL_law_431 (lv_at hl 6 rfl) ?_
  refine lv_iconst (v := 1) hx hb dL_law_433 (by decide) ?_
  refine lv_iadd hx hb dL_law_434 ?_
  refine kc_i (y := 1) (by decide +kernel) ?_
  refine va_sld hx hb hX hbl hbA hS (pk_in 1 4 (by decide) rfl) dL_law_435 ?_
  refine kc_i (y := rw) (hs1 : xs 1 = rw) ?_
  refine lv_i2c (v := 115) hx hb dL_law_436 hch ?_
  refine lv_aload_n hx hb dL_law_437 rfl (lv_at hl 1 rfl) ?_
  refine lv_iload hx hb dL_law_438 (lv_at hl 6 rfl) ?_
  refine lv_iconst (v := 2) hx hb dL_law_440 (by decide) ?_
  refine lv_iadd hx hb dL_law_441 ?_
  refine kc_i (y := 2) (by decide +kernel) ?_
  refine va_sld hx hb hX hbl hbA hS (pk_in 2 4 (by decide) rfl) dL_law_442 ?_
  refine kc_i (y := p1) (hs2 : xs 2 = p1) ?_
  refine lv_aload_n hx hb dL_law_443 rfl (lv_at hl 1 rfl) ?_
  refine lv_iload hx hb dL_law_444 (lv_at hl 6 rfl) ?_
  refine lv_iconst (v := 3) hx hb dL_law_446 (by decide) ?_
  refine lv_iadd hx hb dL_law_447 ?_
  refine kc_i (y := 3) (by decide +kernel) ?_
  refine va_sld hx hb hX hbl hbA hS (pk_in 3 4 (by decide) rfl) dL_law_448 ?_
  refine kc_i (y := p2) (hs3 : xs 3 = p2) ?_
  have hPc := hP.sub (ws' := [(mo, .inr (19, [.int 0, .int 0, .int 0, .int 0, .int 0, .int 0, .int 0, .ref ti, .ref si, .ref lo, .ref lh, .ref lk, .ref sp, .ref st, .ref pa, .ref br, .ref sg, .int 0, .int 0, .int 0, .int 0, .int 0, .int 0, .long 0, .long 0, .long 0, .long 0, .int 0]))]) [0] rfl
  have hDc := hD.sub (ws' := [(mo, .inr (19, [.int 0, .int 0, .int 0, .int 0, .int 0, .int 0, .int 0, .ref ti, .ref si, .ref lo, .ref lh, .ref lk, .ref sp, .ref st, .ref pa, .ref br, .ref sg, .int 0, .int 0, .int 0, .int 0, .int 0, .int 0, .long 0, .long 0, .long 0, .long 0, .int 0]))]) [0] (by decide) rfl
  have hKc := hK.sub (tys' := []) [] rfl
  have hFc := va_free (wc := [(mo, .inr (19, [.int 0, .int 0, .int 0, .int 0, .int 0, .int 0, .int 0, .ref ti, .ref si, .ref lo, .ref lh, .ref lk, .ref sp, .ref st, .ref pa, .ref br, .ref sg, .int 0, .int 0, .int 0, .int 0, .int 0, .int 0, .long 0, .long 0, .long 0, .long 0, .int 0]))]) hD hS hA [0] rfl
  refine va_calli (va_runV (As := [.int 115, .int p1, .int p2]) (rest := []) ⟨hx, hb, hml, hown, hts⟩ (k_m_order_bad115 l dC dI z zK zV p1 p2 mo ti si lo lh lk sp st pa br sg 0 H.size (hb0)) (cwV 3 hts hL_X15_order_113 rfl rfl rfl (by decide +kernel) ⟨Nat.le_of_ble_eq_true rfl, Nat.le_of_ble_eq_true rfl⟩) ⟨kP_blind, va_recv hKc hPc (ci := 19) (q0 := 0) rfl rfl, kP_go hPc hKc hDc hFc hM hS⟩ rfl rfl hl.1 rfl (lv_room (Nat.le_of_ble_eq_true rfl)) dL_law_449 ⟨Nat.le_of_ble_eq_true rfl, Nat.le_of_ble_eq_true rfl⟩) hS (fun q _ h => hFc q h) hFc (fun r2 u t H1 locs ht hvm hw hB hz1 hk1 hS => ?_)
  obtain ⟨hP, hD, hK⟩ := kJ (wr := []) (w1 := [(mo, .inr (19, [.int 0, .int 0, .int 0, .int 0, .int 0, .int 0, .int 0, .ref ti, .ref si, .ref lo, .ref lh, .ref lk, .ref sp, .ref st, .ref pa, .ref br, .ref sg, .int 0, .int 0, .int 0, .int 0, .int 0, .int 0, .long 0, .long 0, .long 0, .long 0, .int 1]))]) (t1 := []) hP hD hK [0] [] rfl rfl (by decide) (by decide) hk1 hFc ht hvm hB
  generalize H1 = H at hP hS ⊢
  have hP : va_P (dC, dI) vwCl [(mo, .inr (19, [.int 0, .int 0, .int 0, .int 0, .int 0, .int 0, .int 0, .ref ti, .ref si, .ref lo, .ref lh, .ref lk, .ref sp, .ref st, .ref pa, .ref br, .ref sg, .int 0, .int 0, .int 0, .int 0, .int 0, .int 0, .long 0, .long 0, .long 0, .long 0, .int 1]))] H := hP
  have hD : va_D A [(mo, .inr (19, [.int 0, .int 0, .int 0, .int 0, .int 0, .int 0, .int 0, .ref ti, .ref si, .ref lo, .ref lh, .ref lk, .ref sp, .ref st, .ref pa, .ref br, .ref sg, .int 0, .int 0, .int 0, .int 0, .int 0, .int 0, .long 0, .long 0, .long 0, .long 0, .int 1]))] := hD
  have hK : va_K (dC, dI) vwCl [(co, .long)] s := hK
  obtain rfl : (-1) = r2 := hw
  refine lv_istore (lv' := [(7, .int (-1)), (6, .int 1), (0, .ref b), (1, .ref x), (2, .ref mo), (3, .ref ou), (4, .ref od_), (5, .int 0)]) hx hb dL_law_452 hl (by decide) rfl (fun ls hl => ?_)
  refine lv_aload_n hx hb dL_law_454 rfl (lv_at hl 4 rfl) ?_
  have hPc := hP.sub (ws' := [(mo, .inr (19, [.int 0, .int 0, .int 0, .int 0, .int 0, .int 0, .int 0, .ref ti, .ref si, .ref lo, .ref lh, .ref lk, .ref sp, .ref st, .ref pa, .ref br, .ref sg, .int 0, .int 0, .int 0, .int 0, .int 0, .int 0, .long 0, .long 0, .long 0, .long 0, .int 1]))]) [0] rfl
  have hDc := hD.sub (ws' := [(mo, .inr (19, [.int 0, .int 0, .int 0, .int 0, .int 0, .int 0, .int 0, .ref ti, .ref si, .ref lo, .ref lh, .ref lk, .ref sp, .ref st, .ref pa, .ref br, .ref sg, .int 0, .int 0, .int 0, .int 0, .int 0, .int 0, .long 0, .long 0, .long 0, .long 0, .int 1]))]) [0] (by decide) rfl
  have hKc := hK.sub (tys' := []) [] rfl
  have hFc := va_free (wc := [(mo, .inr (19, [.int 0, .int 0, .int 0, .int 0, .int 0, .int 0, .int 0, .ref ti, .ref si, .ref lo, .ref lh, .ref lk, .ref sp, .ref st, .ref pa, .ref br, .ref sg, .int 0, .int 0, .int 0, .int 0, .int 0, .int 0, .long 0, .long 0, .long 0, .long 0, .int 1]))]) hD hS hA [0] rfl
  refine va_calli (va_runV (As := []) (rest := []) ⟨hx, hb, hml, hown, hts⟩ (k_m_thrown l dC dI z zK zV mo ti si lo lh lk sp st pa br sg 0 0 0 0 0 0 0 0 0 0 0 0 0 0 0 0 0 1 H.size) (cwV 0 hts hL_X15_thrown_100 rfl rfl rfl (by decide +kernel) ⟨Nat.le_of_ble_eq_true rfl, Nat.le_of_ble_eq_true rfl⟩) ⟨kP_blind, va_recv hKc hPc (ci := 19) (q0 := 0) rfl rfl, kP_go hPc hKc hDc hFc hM hS⟩ rfl rfl hl.1 rfl (lv_room (Nat.le_of_ble_eq_true rfl)) dL_law_455 ⟨Nat.le_of_ble_eq_true rfl, Nat.le_of_ble_eq_true rfl⟩) hS (fun q _ h => hFc q h) hFc (fun r3 u t H1 locs ht hvm hw hB hz1 hk1 hS => ?_)
  obtain ⟨hP, hD, hK⟩ := kJ (wr := []) (w1 := [(mo, .inr (19, [.int 0, .int 0, .int 0, .int 0, .int 0, .int 0, .int 0, .ref ti, .ref si, .ref lo, .ref lh, .ref lk, .ref sp, .ref st, .ref pa, .ref br, .ref sg, .int 0, .int 0, .int 0, .int 0, .int 0, .int 0, .long 0, .long 0, .long 0, .long 0, .int 1]))]) (t1 := []) hP hD hK [0] [] rfl rfl (by decide) (by decide) hk1 hFc ht hvm hB
  generalize H1 = H at hP hS ⊢
  have hP : va_P (dC, dI) vwCl [(mo, .inr (19, [.int 0, .int 0, .int 0, .int 0, .int 0, .int 0, .int 0, .ref ti, .ref si, .ref lo, .ref lh, .ref lk, .ref sp, .ref st, .ref pa, .ref br, .ref sg, .int 0, .int 0, .int 0, .int 0, .int 0, .int 0, .long 0, .long 0, .long 0, .long 0, .int 1]))] H := hP
  have hD : va_D A [(mo, .inr (19, [.int 0, .int 0, .int 0, .int 0, .int 0, .int 0, .int 0, .ref ti, .ref si, .ref lo, .ref lh, .ref lk, .ref sp, .ref st, .ref pa, .ref br, .ref sg, .int 0, .int 0, .int 0, .int 0, .int 0, .int 0, .long 0, .long 0, .long 0, .long 0, .int 1]))] := hD
  have hK : va_K (dC, dI) vwCl [(co, .long)] s := hK
  obtain rfl : 1 = r3 := hw
  refine lv_iload hx hb dL_law_458 (lv_at hl 1 rfl) ?_
  refine lv_icmp_eq (tgt := 465) hx hb dL_law_460 (by decide) (fun _ => ?_) (fun c_ => absurd (by decide +kernel) c_)
  refine lv_iload hx hb dL_law_465 (lv_at hl 1 rfl) ?_
  refine lv_if_ne (tgt := 482) hx hb dL_law_467 (by decide) (fun _ => ?_) (fun c_ => absurd c_ (by decide +kernel))
  refine lv_goto (tgt := 1684) hx hb dL_law_482 (by decide) ?_
  exact la_tail (dC := dC) (dI := dI) hst C0 hM hA hAl H locs hS ls (lv_sub hl [2, 7] rfl) (by omega) (by omega)
set_option maxHeartbeats 8000000 in
set_option maxRecDepth 100000 in
theorem la_order_bad109 {p : Program} {l : Launch} {e : Env} {s : State} {m : MethodId} {below : List Frame} {meth : Method} {c : Code} {dC : Nat → ClassId} {dI : Nat → Nat → Nat} {z zK zV : Nat → Nat} {b : Nat} {xs : Nat → Int32} {A : Nat → Prop} (hst : l.stackTraces = false) (C0 : lw_At p s m meth c b 4 xs) (hM : am z zK zV A s s.heap) (hA : ∀ q : Nat, s.heap.size ≤ q → A q) (hAl : ∀ q : Nat, A q → s.heap.size ≤ q) (sh : Nat) (rg : Nat) (dk : Nat) (hd : Nat) (lg : Nat) (pl : Nat) (pr : Nat) (x : Nat) (tl : Nat) (tw : Nat) (p1 : Int32) (p2 : Int32) (mo : Nat) (ti : Nat) (si : Nat) (lo : Nat) (lh : Nat) (lk : Nat) (sp : Nat) (st : Nat) (pa : Nat) (br : Nat) (sg : Nat) (ou : Nat) (co : ClassId) (of_ : Nat → Int64) (od_ : Nat) (rw : Int32) (hb0 : ¬ kO 109 p1 p2) (hs1 : xs 1 = rw) (hs2 : xs 2 = p1) (hs3 : xs 3 = p2) (hch : (rw.toUInt32 % 65536).toInt32 = 109) (H : Heap) (locs : List Loc) (hK : va_K (dC, dI) vwCl [(co, .long)] s) (hP : va_P (dC, dI) vwCl [(x, .inr (15, [.ref sh, .ref tl, .ref tw, .int 0])), (sh, .inr (13, [.ref rg, .ref dk, .ref hd, .ref lg, .ref pl, .ref pr, .int 0, .int 0, .int 0, .int 0, .int 0, .int 0, .int 0, .int 0, .int 0, .int 0, .int 0])), (mo, .inr (19, [.int 0, .int 0, .int 0, .int 0, .int 0, .int 0, .int 0, .ref ti, .ref si, .ref lo, .ref lh, .ref lk, .ref sp, .ref st, .ref pa, .ref br, .ref sg, .int 0, .int 0, .int 0, .int 0, .int 0, .int 0, .long 0, .long 0, .long 0, .long 0, .int 0])), (ou, .inl (co, 1, .inr (.inl of_)))] H) (hD : va_D A [(x, .inr (15, [.ref sh, .ref tl, .ref tw, .int 0])), (sh, .inr (13, [.ref rg, .ref dk, .ref hd, .ref lg, .ref pl, .ref pr, .int 0, .int 0, .int 0, .int 0, .int 0, .int 0, .int 0, .int 0, .int 0, .int 0, .int 0])), (mo, .inr (19, [.int 0, .int 0, .int 0, .int 0, .int 0, .int 0, .int 0, .ref ti, .ref si, .ref lo, .ref lh, .ref lk, .ref sp, .ref st, .ref pa, .ref br, .ref sg, .int 0, .int 0, .int 0, .int 0, .int 0, .int 0, .long 0, .long 0, .long 0, .long 0, .int 0])), (ou, .inl (co, 1, .inr (.inl of_)))]) (hS : va_S A s.heap H locs) (ls : Array Slot) (hl : lv_has ls 10 [(0, .ref b), (1, .ref x), (2, .ref mo), (3, .ref ou), (4, .ref od_), (5, .int 0)]) : W p l e room_1 s m #[Value.ref b] below meth c H locs 100 1400 (lw_Z below #[Value.ref b] s) (F0 m 403 ls []) := by
  obtain ⟨hx, hb, hr, hml, hown, hts, hX, hbl, hlocks, hgv⟩ := id C0
  have hbA : ¬ A b := fun h => absurd (hAl b h) (Nat.not_le.mpr hbl)
  refine lv_aload_n hx hb dL_law_403 rfl (lv_at hl 1 rfl) ?_
  refine lv_aload_n hx hb dL_law_404 rfl (lv_at hl 0 rfl) ?_
  refine lv_iload hx hb dL_law_405 (lv_at hl 5 rfl) ?_
  refine lv_iconst (v := 1) hx hb dL_law_407 (by decide) ?_
  refine lv_iadd hx hb dL_law_408 ?_
  refine kc_i (y := 1) (by decide +kernel) ?_
  refine va_sld hx hb hX hbl hbA hS (pk_in 1 4 (by decide) rfl) dL_law_409 ?_
  refine kc_i (y := rw) (hs1 : xs 1 = rw) ?_
  refine lv_i2c (v := 109) hx hb dL_law_410 hch ?_
  refine lv_aload_n hx hb dL_law_411 rfl (lv_at hl 0 rfl) ?_
  refine lv_iload hx hb dL_law_412 (lv_at hl 5 rfl) ?_
  refine lv_iconst (v := 2) hx hb dL_law_414 (by decide) ?_
  refine lv_iadd hx hb dL_law_415 ?_
  refine kc_i (y := 2) (by decide +kernel) ?_
  refine va_sld hx hb hX hbl hbA hS (pk_in 2 4 (by decide) rfl) dL_law_416 ?_
  refine kc_i (y := p1) (hs2 : xs 2 = p1) ?_
  refine lv_aload_n hx hb dL_law_417 rfl (lv_at hl 0 rfl) ?_
  refine lv_iload hx hb dL_law_418 (lv_at hl 5 rfl) ?_
  refine lv_iconst (v := 3) hx hb dL_law_420 (by decide) ?_
  refine lv_iadd hx hb dL_law_421 ?_
  refine kc_i (y := 3) (by decide +kernel) ?_
  refine va_sld hx hb hX hbl hbA hS (pk_in 3 4 (by decide) rfl) dL_law_422 ?_
  refine kc_i (y := p2) (hs3 : xs 3 = p2) ?_
  refine lv_aload_n hx hb dL_law_423 rfl (lv_at hl 3 rfl) ?_
  have hPc := hP.sub (ws' := [(x, .inr (15, [.ref sh, .ref tl, .ref tw, .int 0])), (sh, .inr (13, [.ref rg, .ref dk, .ref hd, .ref lg, .ref pl, .ref pr, .int 0, .int 0, .int 0, .int 0, .int 0, .int 0, .int 0, .int 0, .int 0, .int 0, .int 0])), (ou, .inl (co, 1, .inr (.inl of_)))]) [0, 1, 3] rfl
  have hDc := hD.sub (ws' := [(x, .inr (15, [.ref sh, .ref tl, .ref tw, .int 0])), (sh, .inr (13, [.ref rg, .ref dk, .ref hd, .ref lg, .ref pl, .ref pr, .int 0, .int 0, .int 0, .int 0, .int 0, .int 0, .int 0, .int 0, .int 0, .int 0, .int 0])), (ou, .inl (co, 1, .inr (.inl of_)))]) [0, 1, 3] (by decide) rfl
  have hKc := hK.sub (tys' := [(co, .long)]) [0] rfl
  have hFc := va_free (wc := [(x, .inr (15, [.ref sh, .ref tl, .ref tw, .int 0])), (sh, .inr (13, [.ref rg, .ref dk, .ref hd, .ref lg, .ref pl, .ref pr, .int 0, .int 0, .int 0, .int 0, .int 0, .int 0, .int 0, .int 0, .int 0, .int 0, .int 0])), (ou, .inl (co, 1, .inr (.inl of_)))]) hD hS hA [0, 1, 3] rfl
  refine va_calli (vx_runSW (As := [.ref x, .int 109, .int p1, .int p2, .ref ou]) (rest := []) ⟨hx, hb, hml, hown, hts⟩ (k_l_order_bad l dC dI z zK zV sh rg dk hd lg pl pr x tl tw 109 p1 p2 ou co of_ H.size hst (hb0)) (vx_cwSW 5 hts hL_L_order_110 rfl rfl rfl (by decide +kernel) ⟨Nat.le_of_ble_eq_true rfl, Nat.le_of_ble_eq_true rfl⟩) ⟨kP_blind, kP_go hPc hKc hDc hFc hM hS⟩ rfl rfl hl.1 rfl (lv_room (Nat.le_of_ble_eq_true rfl)) dL_law_424 ⟨Nat.le_of_ble_eq_true rfl, Nat.le_of_ble_eq_true rfl⟩) hS (fun q _ h => hFc q h) hFc (fun r1 u t H1 locs ht hvm hw hB hz1 hk1 hS => ?_)
  obtain ⟨hP, hD, hK⟩ := kJ (wr := [(mo, .inr (19, [.int 0, .int 0, .int 0, .int 0, .int 0, .int 0, .int 0, .ref ti, .ref si, .ref lo, .ref lh, .ref lk, .ref sp, .ref st, .ref pa, .ref br, .ref sg, .int 0, .int 0, .int 0, .int 0, .int 0, .int 0, .long 0, .long 0, .long 0, .long 0, .int 0]))]) (w1 := []) (t1 := []) hP hD hK [0, 1, 3] [2] rfl rfl (by decide) (by decide) hk1 hFc ht hvm hB
  generalize H1 = H at hP hS ⊢
  have hP : va_P (dC, dI) vwCl [(mo, .inr (19, [.int 0, .int 0, .int 0, .int 0, .int 0, .int 0, .int 0, .ref ti, .ref si, .ref lo, .ref lh, .ref lk, .ref sp, .ref st, .ref pa, .ref br, .ref sg, .int 0, .int 0, .int 0, .int 0, .int 0, .int 0, .long 0, .long 0, .long 0, .long 0, .int 0]))] H := hP
  have hD : va_D A [(mo, .inr (19, [.int 0, .int 0, .int 0, .int 0, .int 0, .int 0, .int 0, .ref ti, .ref si, .ref lo, .ref lh, .ref lk, .ref sp, .ref st, .ref pa, .ref br, .ref sg, .int 0, .int 0, .int 0, .int 0, .int 0, .int 0, .long 0, .long 0, .long 0, .long 0, .int 0]))] := hD
  have hK : va_K (dC, dI) vwCl [(co, .long)] s := hK
  obtain rfl : 1 = r1 := hw
  refine lv_istore (lv' := [(6, .int 1), (0, .ref b), (1, .ref x), (2, .ref mo), (3, .ref ou), (4, .ref od_), (5, .int 0)]) hx hb dL_law_427 hl (by decide) rfl (fun ls hl => ?_)
  refine lv_aload_n hx hb dL_law_429 rfl (lv_at hl 3 rfl) ?_
  refine lv_aload_n hx hb dL_law_430 rfl (lv_at hl 1 rfl) ?_
  refine lv_iload hx hb dL_law_431 (lv_at hl 6 rfl) ?_
  refine lv_iconst (v := 1) hx hb dL_law_433 (by decide) ?_
  refine lv_iadd hx hb dL_law_434 ?_
  refine kc_i (y := 1) (by decide +kernel) ?_
  refine va_sld hx hb hX hbl hbA hS (pk_in 1 4 (by decide) rfl) dL_law_435 ?_
  refine kc_i (y := rw) (hs1 : xs 1 = rw) ?_
  refine lv_i2c (v := 109) hx hb dL_law_436 hch ?_
  refine lv_aload_n hx hb dL_law_437 rfl (lv_at hl 1 rfl) ?_
  refine lv_iload hx hb dL_law_438 (lv_at hl 6 rfl) ?_
  refine lv_iconst (v := 2) hx hb dL_law_440 (by decide) ?_
  refine lv_iadd hx hb dL_law_441 ?_
  refine kc_i (y := 2) (by decide +kernel) ?_
  refine va_sld hx hb hX hbl hbA hS (pk_in 2 4 (by decide) rfl) dL_law_442 ?_
  refine kc_i (y := p1) (hs2 : xs 2 = p1) ?_
  refine lv_aload_n hx hb dL_law_443 rfl (lv_at hl 1 rfl) ?_
  refine lv_iload hx hb dL_law_444 (lv_at hl 6 rfl) ?_
  refine lv_iconst (v := 3) hx hb dL_law_446 (by decide) ?_
  refine lv_iadd hx hb dL_law_447 ?_
  refine kc_i (y := 3) (by decide +kernel) ?_
  refine va_sld hx hb hX hbl hbA hS (pk_in 3 4 (by decide) rfl) dL_law_448 ?_
  refine kc_i (y := p2) (hs3 : xs 3 = p2) ?_
  have hPc := hP.sub (ws' := [(mo, .inr (19, [.int 0, .int 0, .int 0, .int 0, .int 0, .int 0, .int 0, .ref ti, .ref si, .ref lo, .ref lh, .ref lk, .ref sp, .ref st, .ref pa, .ref br, .ref sg, .int 0, .int 0, .int 0, .int 0, .int 0, .int 0, .long 0, .long 0, .long 0, .long 0, .int 0]))]) [0] rfl
  have hDc := hD.sub (ws' := [(mo, .inr (19, [.int 0, .int 0, .int 0, .int 0, .int 0, .int 0, .int 0, .ref ti, .ref si, .ref lo, .ref lh, .ref lk, .ref sp, .ref st, .ref pa, .ref br, .ref sg, .int 0, .int 0, .int 0, .int 0, .int 0, .int 0, .long 0, .long 0, .long 0, .long 0, .int 0]))]) [0] (by decide) rfl
  have hKc := hK.sub (tys' := []) [] rfl
  have hFc := va_free (wc := [(mo, .inr (19, [.int 0, .int 0, .int 0, .int 0, .int 0, .int 0, .int 0, .ref ti, .ref si, .ref lo, .ref lh, .ref lk, .ref sp, .ref st, .ref pa, .ref br, .ref sg, .int 0, .int 0, .int 0, .int 0, .int 0, .int 0, .long 0, .long 0, .long 0, .long 0, .int 0]))]) hD hS hA [0] rfl
  refine va_calli (va_runV (As := [.int 109, .int p1, .int p2]) (rest := []) ⟨hx, hb, hml, hown, hts⟩ (k_m_order_bad109 l dC dI z zK zV p1 p2 mo ti si lo lh lk sp st pa br sg 0 H.size (hb0)) (cwV 3 hts hL_X15_order_113 rfl rfl rfl (by decide +kernel) ⟨Nat.le_of_ble_eq_true rfl, Nat.le_of_ble_eq_true rfl⟩) ⟨kP_blind, va_recv hKc hPc (ci := 19) (q0 := 0) rfl rfl, kP_go hPc hKc hDc hFc hM hS⟩ rfl rfl hl.1 rfl (lv_room (Nat.le_of_ble_eq_true rfl)) dL_law_449 ⟨Nat.le_of_ble_eq_true rfl, Nat.le_of_ble_eq_true rfl⟩) hS (fun q _ h => hFc q h) hFc (fun r2 u t H1 locs ht hvm hw hB hz1 hk1 hS => ?_)
  obtain ⟨hP, hD, hK⟩ := kJ (wr := []) (w1 := [(mo, .inr (19, [.int 0, .int 0, .int 0, .int 0, .int 0, .int 0, .int 0, .ref ti, .ref si, .ref lo, .ref lh, .ref lk, .ref sp, .ref st, .ref pa, .ref br, .ref sg, .int 0, .int 0, .int 0, .int 0, .int 0, .int 0, .long 0, .long 0, .long 0, .long 0, .int 1]))]) (t1 := []) hP hD hK [0] [] rfl rfl (by decide) (by decide) hk1 hFc ht hvm hB
  generalize H1 = H at hP hS ⊢
  have hP : va_P (dC, dI) vwCl [(mo, .inr (19, [.int 0, .int 0, .int 0, .int 0, .int 0, .int 0, .int 0, .ref ti, .ref si, .ref lo, .ref lh, .ref lk, .ref sp, .ref st, .ref pa, .ref br, .ref sg, .int 0, .int 0, .int 0, .int 0, .int 0, .int 0, .long 0, .long 0, .long 0, .long 0, .int 1]))] H := hP
  have hD : va_D A [(mo, .inr (19, [.int 0, .int 0, .int 0, .int 0, .int 0, .int 0, .int 0, .ref ti, .ref si, .ref lo, .ref lh, .ref lk, .ref sp, .ref st, .ref pa, .ref br, .ref sg, .int 0, .int 0, .int 0, .int 0, .int 0, .int 0, .long 0, .long 0, .long 0, .long 0, .int 1]))] := hD
  have hK : va_K (dC, dI) vwCl [(co, .long)] s := hK
  obtain rfl : (-1) = r2 := hw
  refine lv_istore (lv' := [(7, .int (-1)), (6, .int 1), (0, .ref b), (1, .ref x), (2, .ref mo), (3, .ref ou), (4, .ref od_), (5, .int 0)]) hx hb dL_law_452 hl (by decide) rfl (fun ls hl => ?_)
  refine lv_aload_n hx hb dL_law_454 rfl (lv_at hl 4 rfl) ?_
  have hPc := hP.sub (ws' := [(mo, .inr (19, [.int 0, .int 0, .int 0, .int 0, .int 0, .int 0, .int 0, .ref ti, .ref si, .ref lo, .ref lh, .ref lk, .ref sp, .ref st, .ref pa, .ref br, .ref sg, .int 0, .int 0, .int 0, .int 0, .int 0, .int 0, .long 0, .long 0, .long 0, .long 0, .int 1]))]) [0] rfl
  have hDc := hD.sub (ws' := [(mo, .inr (19, [.int 0, .int 0, .int 0, .int 0, .int 0, .int 0, .int 0, .ref ti, .ref si, .ref lo, .ref lh, .ref lk, .ref sp, .ref st, .ref pa, .ref br, .ref sg, .int 0, .int 0, .int 0, .int 0, .int 0, .int 0, .long 0, .long 0, .long 0, .long 0, .int 1]))]) [0] (by decide) rfl
  have hKc := hK.sub (tys' := []) [] rfl
  have hFc := va_free (wc := [(mo, .inr (19, [.int 0, .int 0, .int 0, .int 0, .int 0, .int 0, .int 0, .ref ti, .ref si, .ref lo, .ref lh, .ref lk, .ref sp, .ref st, .ref pa, .ref br, .ref sg, .int 0, .int 0, .int 0, .int 0, .int 0, .int 0, .long 0, .long 0, .long 0, .long 0, .int 1]))]) hD hS hA [0] rfl
  refine va_calli (va_runV (As := []) (rest := []) ⟨hx, hb, hml, hown, hts⟩ (k_m_thrown l dC dI z zK zV mo ti si lo lh lk sp st pa br sg 0 0 0 0 0 0 0 0 0 0 0 0 0 0 0 0 0 1 H.size) (cwV 0 hts hL_X15_thrown_100 rfl rfl rfl (by decide +kernel) ⟨Nat.le_of_ble_eq_true rfl, Nat.le_of_ble_eq_true rfl⟩) ⟨kP_blind, va_recv hKc hPc (ci := 19) (q0 := 0) rfl rfl, kP_go hPc hKc hDc hFc hM hS⟩ rfl rfl hl.1 rfl (lv_room (Nat.le_of_ble_eq_true rfl)) dL_law_455 ⟨Nat.le_of_ble_eq_true rfl, Nat.le_of_ble_eq_true rfl⟩) hS (fun q _ h => hFc q h) hFc (fun r3 u t H1 locs ht hvm hw hB hz1 hk1 hS => ?_)
  obtain ⟨hP, hD, hK⟩ := kJ (wr := []) (w1 := [(mo, .inr (19, [.int 0, .int 0, .int 0, .int 0, .int 0, .int 0, .int 0, .ref ti, .ref si, .ref lo, .ref lh, .ref lk, .ref sp, .ref st, .ref pa, .ref br, .ref sg, .int 0, .int 0, .int 0, .int 0, .int 0, .int 0, .long 0, .long 0, .long 0, .long 0, .int 1]))]) (t1 := []) hP hD hK [0] [] rfl rfl (by decide) (by decide) hk1 hFc ht hvm hB
  generalize H1 = H at hP hS ⊢
  have hP : va_P (dC, dI) vwCl [(mo, .inr (19, [.int 0, .int 0, .int 0, .int 0, .int 0, .int 0, .int 0, .ref ti, .ref si, .ref lo, .ref lh, .ref lk, .ref sp, .ref st, .ref pa, .ref br, .ref sg, .int 0, .int 0, .int 0, .int 0, .int 0, .int 0, .long 0, .long 0, .long 0, .long 0, .int 1]))] H := hP
  have hD : va_D A [(mo, .inr (19, [.int 0, .int 0, .int 0, .int 0, .int 0, .int 0, .int 0, .ref ti, .ref si, .ref lo, .ref lh, .ref lk, .ref sp, .ref st, .ref pa, .ref br, .ref sg, .int 0, .int 0, .int 0, .int 0, .int 0, .int 0, .long 0, .long 0, .long 0, .long 0, .int 1]))] := hD
  have hK : va_K (dC, dI) vwCl [(co, .long)] s := hK
  obtain rfl : 1 = r3 := hw
  refine lv_iload hx hb dL_law_458 (lv_at hl 1 rfl) ?_
  refine lv_icmp_eq (tgt := 465) hx hb dL_law_460 (by decide) (fun _ => ?_) (fun c_ => absurd (by decide +kernel) c_)
  refine lv_iload hx hb dL_law_465 (lv_at hl 1 rfl) ?_
  refine lv_if_ne (tgt := 482) hx hb dL_law_467 (by decide) (fun _ => ?_) (fun c_ => absurd c_ (by decide +kernel))
  refine lv_goto (tgt := 1684) hx hb dL_law_482 (by decide) ?_
  exact la_tail (dC := dC) (dI := dI) hst C0 hM hA hAl H locs hS ls (lv_sub hl [2, 7] rfl) (by omega) (by omega)
set_option maxHeartbeats 8000000 in
set_option maxRecDepth 100000 in
theorem la_order_bad98 {p : Program} {l : Launch} {e : Env} {s : State} {m : MethodId} {below : List Frame} {meth : Method} {c : Code} {dC : Nat → ClassId} {dI : Nat → Nat → Nat} {z zK zV : Nat → Nat} {b : Nat} {xs : Nat → Int32} {A : Nat → Prop} (hst : l.stackTraces = false) (C0 : lw_At p s m meth c b 4 xs) (hM : am z zK zV A s s.heap) (hA : ∀ q : Nat, s.heap.size ≤ q → A q) (hAl : ∀ q : Nat, A q → s.heap.size ≤ q) (sh : Nat) (rg : Nat) (dk : Nat) (hd : Nat) (lg : Nat) (pl : Nat) (pr : Nat) (x : Nat) (tl : Nat) (tw : Nat) (p1 : Int32) (p2 : Int32) (mo : Nat) (ti : Nat) (si : Nat) (lo : Nat) (lh : Nat) (lk : Nat) (sp : Nat) (st : Nat) (pa : Nat) (br : Nat) (sg : Nat) (ou : Nat) (co : ClassId) (of_ : Nat → Int64) (od_ : Nat) (rw : Int32) (hb0 : ¬ kO 98 p1 p2) (hs1 : xs 1 = rw) (hs2 : xs 2 = p1) (hs3 : xs 3 = p2) (hch : (rw.toUInt32 % 65536).toInt32 = 98) (H : Heap) (locs : List Loc) (hK : va_K (dC, dI) vwCl [(co, .long)] s) (hP : va_P (dC, dI) vwCl [(x, .inr (15, [.ref sh, .ref tl, .ref tw, .int 0])), (sh, .inr (13, [.ref rg, .ref dk, .ref hd, .ref lg, .ref pl, .ref pr, .int 0, .int 0, .int 0, .int 0, .int 0, .int 0, .int 0, .int 0, .int 0, .int 0, .int 0])), (mo, .inr (19, [.int 0, .int 0, .int 0, .int 0, .int 0, .int 0, .int 0, .ref ti, .ref si, .ref lo, .ref lh, .ref lk, .ref sp, .ref st, .ref pa, .ref br, .ref sg, .int 0, .int 0, .int 0, .int 0, .int 0, .int 0, .long 0, .long 0, .long 0, .long 0, .int 0])), (ou, .inl (co, 1, .inr (.inl of_)))] H) (hD : va_D A [(x, .inr (15, [.ref sh, .ref tl, .ref tw, .int 0])), (sh, .inr (13, [.ref rg, .ref dk, .ref hd, .ref lg, .ref pl, .ref pr, .int 0, .int 0, .int 0, .int 0, .int 0, .int 0, .int 0, .int 0, .int 0, .int 0, .int 0])), (mo, .inr (19, [.int 0, .int 0, .int 0, .int 0, .int 0, .int 0, .int 0, .ref ti, .ref si, .ref lo, .ref lh, .ref lk, .ref sp, .ref st, .ref pa, .ref br, .ref sg, .int 0, .int 0, .int 0, .int 0, .int 0, .int 0, .long 0, .long 0, .long 0, .long 0, .int 0])), (ou, .inl (co, 1, .inr (.inl of_)))]) (hS : va_S A s.heap H locs) (ls : Array Slot) (hl : lv_has ls 10 [(0, .ref b), (1, .ref x), (2, .ref mo), (3, .ref ou), (4, .ref od_), (5, .int 0)]) : W p l e room_1 s m #[Value.ref b] below meth c H locs 100 1400 (lw_Z below #[Value.ref b] s) (F0 m 403 ls []) := by
  obtain ⟨hx, hb, hr, hml, hown, hts, hX, hbl, hlocks, hgv⟩ := id C0
  have hbA : ¬ A b := fun h => absurd (hAl b h) (Nat.not_le.mpr hbl)
  refine lv_aload_n hx hb dL_law_403 rfl (lv_at hl 1 rfl) ?_
  refine lv_aload_n hx hb dL_law_404 rfl (lv_at hl 0 rfl) ?_
  refine lv_iload hx hb dL_law_405 (lv_at hl 5 rfl) ?_
  refine lv_iconst (v := 1) hx hb dL_law_407 (by decide) ?_
  refine lv_iadd hx hb dL_law_408 ?_
  refine kc_i (y := 1) (by decide +kernel) ?_
  refine va_sld hx hb hX hbl hbA hS (pk_in 1 4 (by decide) rfl) dL_law_409 ?_
  refine kc_i (y := rw) (hs1 : xs 1 = rw) ?_
  refine lv_i2c (v := 98) hx hb dL_law_410 hch ?_
  refine lv_aload_n hx hb dL_law_411 rfl (lv_at hl 0 rfl) ?_
  refine lv_iload hx hb dL_law_412 (lv_at hl 5 rfl) ?_
  refine lv_iconst (v := 2) hx hb dL_law_414 (by decide) ?_
  refine lv_iadd hx hb dL_law_415 ?_
  refine kc_i (y := 2) (by decide +kernel) ?_
  refine va_sld hx hb hX hbl hbA hS (pk_in 2 4 (by decide) rfl) dL_law_416 ?_
  refine kc_i (y := p1) (hs2 : xs 2 = p1) ?_
  refine lv_aload_n hx hb dL_law_417 rfl (lv_at hl 0 rfl) ?_
  refine lv_iload hx hb dL_law_418 (lv_at hl 5 rfl) ?_
  refine lv_iconst (v := 3) hx hb dL_law_420 (by decide) ?_
  refine lv_iadd hx hb dL_law_421 ?_
  refine kc_i (y := 3) (by decide +kernel) ?_
  refine va_sld hx hb hX hbl hbA hS (pk_in 3 4 (by decide) rfl) dL_law_422 ?_
  refine kc_i (y := p2) (hs3 : xs 3 = p2) ?_
  refine lv_aload_n hx hb dL_law_423 rfl (lv_at hl 3 rfl) ?_
  have hPc := hP.sub (ws' := [(x, .inr (15, [.ref sh, .ref tl, .ref tw, .int 0])), (sh, .inr (13, [.ref rg, .ref dk, .ref hd, .ref lg, .ref pl, .ref pr, .int 0, .int 0, .int 0, .int 0, .int 0, .int 0, .int 0, .int 0, .int 0, .int 0, .int 0])), (ou, .inl (co, 1, .inr (.inl of_)))]) [0, 1, 3] rfl
  have hDc := hD.sub (ws' := [(x, .inr (15, [.ref sh, .ref tl, .ref tw, .int 0])), (sh, .inr (13, [.ref rg, .ref dk, .ref hd, .ref lg, .ref pl, .ref pr, .int 0, .int 0, .int 0, .int 0, .int 0, .int 0, .int 0, .int 0, .int 0, .int 0, .int 0])), (ou, .inl (co, 1, .inr (.inl of_)))]) [0, 1, 3] (by decide) rfl
  have hKc := hK.sub (tys' := [(co, .long)]) [0] rfl
  have hFc := va_free (wc := [(x, .inr (15, [.ref sh, .ref tl, .ref tw, .int 0])), (sh, .inr (13, [.ref rg, .ref dk, .ref hd, .ref lg, .ref pl, .ref pr, .int 0, .int 0, .int 0, .int 0, .int 0, .int 0, .int 0, .int 0, .int 0, .int 0, .int 0])), (ou, .inl (co, 1, .inr (.inl of_)))]) hD hS hA [0, 1, 3] rfl
  refine va_calli (vx_runSW (As := [.ref x, .int 98, .int p1, .int p2, .ref ou]) (rest := []) ⟨hx, hb, hml, hown, hts⟩ (k_l_order_bad l dC dI z zK zV sh rg dk hd lg pl pr x tl tw 98 p1 p2 ou co of_ H.size hst (hb0)) (vx_cwSW 5 hts hL_L_order_110 rfl rfl rfl (by decide +kernel) ⟨Nat.le_of_ble_eq_true rfl, Nat.le_of_ble_eq_true rfl⟩) ⟨kP_blind, kP_go hPc hKc hDc hFc hM hS⟩ rfl rfl hl.1 rfl (lv_room (Nat.le_of_ble_eq_true rfl)) dL_law_424 ⟨Nat.le_of_ble_eq_true rfl, Nat.le_of_ble_eq_true rfl⟩) hS (fun q _ h => hFc q h) hFc (fun r1 u t H1 locs ht hvm hw hB hz1 hk1 hS => ?_)
  obtain ⟨hP, hD, hK⟩ := kJ (wr := [(mo, .inr (19, [.int 0, .int 0, .int 0, .int 0, .int 0, .int 0, .int 0, .ref ti, .ref si, .ref lo, .ref lh, .ref lk, .ref sp, .ref st, .ref pa, .ref br, .ref sg, .int 0, .int 0, .int 0, .int 0, .int 0, .int 0, .long 0, .long 0, .long 0, .long 0, .int 0]))]) (w1 := []) (t1 := []) hP hD hK [0, 1, 3] [2] rfl rfl (by decide) (by decide) hk1 hFc ht hvm hB
  generalize H1 = H at hP hS ⊢
  have hP : va_P (dC, dI) vwCl [(mo, .inr (19, [.int 0, .int 0, .int 0, .int 0, .int 0, .int 0, .int 0, .ref ti, .ref si, .ref lo, .ref lh, .ref lk, .ref sp, .ref st, .ref pa, .ref br, .ref sg, .int 0, .int 0, .int 0, .int 0, .int 0, .int 0, .long 0, .long 0, .long 0, .long 0, .int 0]))] H := hP
  have hD : va_D A [(mo, .inr (19, [.int 0, .int 0, .int 0, .int 0, .int 0, .int 0, .int 0, .ref ti, .ref si, .ref lo, .ref lh, .ref lk, .ref sp, .ref st, .ref pa, .ref br, .ref sg, .int 0, .int 0, .int 0, .int 0, .int 0, .int 0, .long 0, .long 0, .long 0, .long 0, .int 0]))] := hD
  have hK : va_K (dC, dI) vwCl [(co, .long)] s := hK
  obtain rfl : 1 = r1 := hw
  refine lv_istore (lv' := [(6, .int 1), (0, .ref b), (1, .ref x), (2, .ref mo), (3, .ref ou), (4, .ref od_), (5, .int 0)]) hx hb dL_law_427 hl (by decide) rfl (fun ls hl => ?_)
  refine lv_aload_n hx hb dL_law_429 rfl (lv_at hl 3 rfl) ?_
  refine lv_aload_n hx hb dL_law_430 rfl (lv_at hl 1 rfl) ?_
  refine lv_iload hx hb dL_law_431 (lv_at hl 6 rfl) ?_
  refine lv_iconst (v := 1) hx hb dL_law_433 (by decide) ?_
  refine lv_iadd hx hb dL_law_434 ?_
  refine kc_i (y := 1) (by decide +kernel) ?_
  refine va_sld hx hb hX hbl hbA hS (pk_in 1 4 (by decide) rfl) dL_law_435 ?_
  refine kc_i (y := rw) (hs1 : xs 1 = rw) ?_
  refine lv_i2c (v := 98) hx hb dL_law_436 hch ?_
  refine lv_aload_n hx hb dL_law_437 rfl (lv_at hl 1 rfl) ?_
  refine lv_iload hx hb dL_law_438 (lv_at hl 6 rfl) ?_
  refine lv_iconst (v := 2) hx hb dL_law_440 (by decide) ?_
  refine lv_iadd hx hb dL_law_441 ?_
  refine kc_i (y := 2) (by decide +kernel) ?_
  refine va_sld hx hb hX hbl hbA hS (pk_in 2 4 (by decide) rfl) dL_law_442 ?_
  refine kc_i (y := p1) (hs2 : xs 2 = p1) ?_
  refine lv_aload_n hx hb dL_law_443 rfl (lv_at hl 1 rfl) ?_
  refine lv_iload hx hb dL_law_444 (lv_at hl 6 rfl) ?_
  refine lv_iconst (v := 3) hx hb dL_law_446 (by decide) ?_
  refine lv_iadd hx hb dL_law_447 ?_
  refine kc_i (y := 3) (by decide +kernel) ?_
  refine va_sld hx hb hX hbl hbA hS (pk_in 3 4 (by decide) rfl) dL_law_448 ?_
  refine kc_i (y := p2) (hs3 : xs 3 = p2) ?_
  have hPc := hP.sub (ws' := [(mo, .inr (19, [.int 0, .int 0, .int 0, .int 0, .int 0, .int 0, .int 0, .ref ti, .ref si, .ref lo, .ref lh, .ref lk, .ref sp, .ref st, .ref pa, .ref br, .ref sg, .int 0, .int 0, .int 0, .int 0, .int 0, .int 0, .long 0, .long 0, .long 0, .long 0, .int 0]))]) [0] rfl
  have hDc := hD.sub (ws' := [(mo, .inr (19, [.int 0, .int 0, .int 0, .int 0, .int 0, .int 0, .int 0, .ref ti, .ref si, .ref lo, .ref lh, .ref lk, .ref sp, .ref st, .ref pa, .ref br, .ref sg, .int 0, .int 0, .int 0, .int 0, .int 0, .int 0, .long 0, .long 0, .long 0, .long 0, .int 0]))]) [0] (by decide) rfl
  have hKc := hK.sub (tys' := []) [] rfl
  have hFc := va_free (wc := [(mo, .inr (19, [.int 0, .int 0, .int 0, .int 0, .int 0, .int 0, .int 0, .ref ti, .ref si, .ref lo, .ref lh, .ref lk, .ref sp, .ref st, .ref pa, .ref br, .ref sg, .int 0, .int 0, .int 0, .int 0, .int 0, .int 0, .long 0, .long 0, .long 0, .long 0, .int 0]))]) hD hS hA [0] rfl
  refine va_calli (va_runV (As := [.int 98, .int p1, .int p2]) (rest := []) ⟨hx, hb, hml, hown, hts⟩ (k_m_order_bad98 l dC dI z zK zV p1 p2 mo ti si lo lh lk sp st pa br sg 0 H.size (hb0)) (cwV 3 hts hL_X15_order_113 rfl rfl rfl (by decide +kernel) ⟨Nat.le_of_ble_eq_true rfl, Nat.le_of_ble_eq_true rfl⟩) ⟨kP_blind, va_recv hKc hPc (ci := 19) (q0 := 0) rfl rfl, kP_go hPc hKc hDc hFc hM hS⟩ rfl rfl hl.1 rfl (lv_room (Nat.le_of_ble_eq_true rfl)) dL_law_449 ⟨Nat.le_of_ble_eq_true rfl, Nat.le_of_ble_eq_true rfl⟩) hS (fun q _ h => hFc q h) hFc (fun r2 u t H1 locs ht hvm hw hB hz1 hk1 hS => ?_)
  obtain ⟨hP, hD, hK⟩ := kJ (wr := []) (w1 := [(mo, .inr (19, [.int 0, .int 0, .int 0, .int 0, .int 0, .int 0, .int 0, .ref ti, .ref si, .ref lo, .ref lh, .ref lk, .ref sp, .ref st, .ref pa, .ref br, .ref sg, .int 0, .int 0, .int 0, .int 0, .int 0, .int 0, .long 0, .long 0, .long 0, .long 0, .int 1]))]) (t1 := []) hP hD hK [0] [] rfl rfl (by decide) (by decide) hk1 hFc ht hvm hB
  generalize H1 = H at hP hS ⊢
  have hP : va_P (dC, dI) vwCl [(mo, .inr (19, [.int 0, .int 0, .int 0, .int 0, .int 0, .int 0, .int 0, .ref ti, .ref si, .ref lo, .ref lh, .ref lk, .ref sp, .ref st, .ref pa, .ref br, .ref sg, .int 0, .int 0, .int 0, .int 0, .int 0, .int 0, .long 0, .long 0, .long 0, .long 0, .int 1]))] H := hP
  have hD : va_D A [(mo, .inr (19, [.int 0, .int 0, .int 0, .int 0, .int 0, .int 0, .int 0, .ref ti, .ref si, .ref lo, .ref lh, .ref lk, .ref sp, .ref st, .ref pa, .ref br, .ref sg, .int 0, .int 0, .int 0, .int 0, .int 0, .int 0, .long 0, .long 0, .long 0, .long 0, .int 1]))] := hD
  have hK : va_K (dC, dI) vwCl [(co, .long)] s := hK
  obtain rfl : (-1) = r2 := hw
  refine lv_istore (lv' := [(7, .int (-1)), (6, .int 1), (0, .ref b), (1, .ref x), (2, .ref mo), (3, .ref ou), (4, .ref od_), (5, .int 0)]) hx hb dL_law_452 hl (by decide) rfl (fun ls hl => ?_)
  refine lv_aload_n hx hb dL_law_454 rfl (lv_at hl 4 rfl) ?_
  have hPc := hP.sub (ws' := [(mo, .inr (19, [.int 0, .int 0, .int 0, .int 0, .int 0, .int 0, .int 0, .ref ti, .ref si, .ref lo, .ref lh, .ref lk, .ref sp, .ref st, .ref pa, .ref br, .ref sg, .int 0, .int 0, .int 0, .int 0, .int 0, .int 0, .long 0, .long 0, .long 0, .long 0, .int 1]))]) [0] rfl
  have hDc := hD.sub (ws' := [(mo, .inr (19, [.int 0, .int 0, .int 0, .int 0, .int 0, .int 0, .int 0, .ref ti, .ref si, .ref lo, .ref lh, .ref lk, .ref sp, .ref st, .ref pa, .ref br, .ref sg, .int 0, .int 0, .int 0, .int 0, .int 0, .int 0, .long 0, .long 0, .long 0, .long 0, .int 1]))]) [0] (by decide) rfl
  have hKc := hK.sub (tys' := []) [] rfl
  have hFc := va_free (wc := [(mo, .inr (19, [.int 0, .int 0, .int 0, .int 0, .int 0, .int 0, .int 0, .ref ti, .ref si, .ref lo, .ref lh, .ref lk, .ref sp, .ref st, .ref pa, .ref br, .ref sg, .int 0, .int 0, .int 0, .int 0, .int 0, .int 0, .long 0, .long 0, .long 0, .long 0, .int 1]))]) hD hS hA [0] rfl
  refine va_calli (va_runV (As := []) (rest := []) ⟨hx, hb, hml, hown, hts⟩ (k_m_thrown l dC dI z zK zV mo ti si lo lh lk sp st pa br sg 0 0 0 0 0 0 0 0 0 0 0 0 0 0 0 0 0 1 H.size) (cwV 0 hts hL_X15_thrown_100 rfl rfl rfl (by decide +kernel) ⟨Nat.le_of_ble_eq_true rfl, Nat.le_of_ble_eq_true rfl⟩) ⟨kP_blind, va_recv hKc hPc (ci := 19) (q0 := 0) rfl rfl, kP_go hPc hKc hDc hFc hM hS⟩ rfl rfl hl.1 rfl (lv_room (Nat.le_of_ble_eq_true rfl)) dL_law_455 ⟨Nat.le_of_ble_eq_true rfl, Nat.le_of_ble_eq_true rfl⟩) hS (fun q _ h => hFc q h) hFc (fun r3 u t H1 locs ht hvm hw hB hz1 hk1 hS => ?_)
  obtain ⟨hP, hD, hK⟩ := kJ (wr := []) (w1 := [(mo, .inr (19, [.int 0, .int 0, .int 0, .int 0, .int 0, .int 0, .int 0, .ref ti, .ref si, .ref lo, .ref lh, .ref lk, .ref sp, .ref st, .ref pa, .ref br, .ref sg, .int 0, .int 0, .int 0, .int 0, .int 0, .int 0, .long 0, .long 0, .long 0, .long 0, .int 1]))]) (t1 := []) hP hD hK [0] [] rfl rfl (by decide) (by decide) hk1 hFc ht hvm hB
  generalize H1 = H at hP hS ⊢
  have hP : va_P (dC, dI) vwCl [(mo, .inr (19, [.int 0, .int 0, .int 0, .int 0, .int 0, .int 0, .int 0, .ref ti, .ref si, .ref lo, .ref lh, .ref lk, .ref sp, .ref st, .ref pa, .ref br, .ref sg, .int 0, .int 0, .int 0, .int 0, .int 0, .int 0, .long 0, .long 0, .long 0, .long 0, .int 1]))] H := hP
  have hD : va_D A [(mo, .inr (19, [.int 0, .int 0, .int 0, .int 0, .int 0, .int 0, .int 0, .ref ti, .ref si, .ref lo, .ref lh, .ref lk, .ref sp, .ref st, .ref pa, .ref br, .ref sg, .int 0, .int 0, .int 0, .int 0, .int 0, .int 0, .long 0, .long 0, .long 0, .long 0, .int 1]))] := hD
  have hK : va_K (dC, dI) vwCl [(co, .long)] s := hK
  obtain rfl : 1 = r3 := hw
  refine lv_iload hx hb dL_law_458 (lv_at hl 1 rfl) ?_
  refine lv_icmp_eq (tgt := 465) hx hb dL_law_460 (by decide) (fun _ => ?_) (fun c_ => absurd (by decide +kernel) c_)
  refine lv_iload hx hb dL_law_465 (lv_at hl 1 rfl) ?_
  refine lv_if_ne (tgt := 482) hx hb dL_law_467 (by decide) (fun _ => ?_) (fun c_ => absurd c_ (by decide +kernel))
  refine lv_goto (tgt := 1684) hx hb dL_law_482 (by decide) ?_
  exact la_tail (dC := dC) (dI := dI) hst C0 hM hA hAl H locs hS ls (lv_sub hl [2, 7] rfl) (by omega) (by omega)
set_option maxHeartbeats 8000000 in
set_option maxRecDepth 100000 in
theorem la_order_bad114 {p : Program} {l : Launch} {e : Env} {s : State} {m : MethodId} {below : List Frame} {meth : Method} {c : Code} {dC : Nat → ClassId} {dI : Nat → Nat → Nat} {z zK zV : Nat → Nat} {b : Nat} {xs : Nat → Int32} {A : Nat → Prop} (hst : l.stackTraces = false) (C0 : lw_At p s m meth c b 4 xs) (hM : am z zK zV A s s.heap) (hA : ∀ q : Nat, s.heap.size ≤ q → A q) (hAl : ∀ q : Nat, A q → s.heap.size ≤ q) (sh : Nat) (rg : Nat) (dk : Nat) (hd : Nat) (lg : Nat) (pl : Nat) (pr : Nat) (x : Nat) (tl : Nat) (tw : Nat) (p1 : Int32) (p2 : Int32) (mo : Nat) (ti : Nat) (si : Nat) (lo : Nat) (lh : Nat) (lk : Nat) (sp : Nat) (st : Nat) (pa : Nat) (br : Nat) (sg : Nat) (ou : Nat) (co : ClassId) (of_ : Nat → Int64) (od_ : Nat) (rw : Int32) (hb0 : ¬ kO 114 p1 p2) (hs1 : xs 1 = rw) (hs2 : xs 2 = p1) (hs3 : xs 3 = p2) (hch : (rw.toUInt32 % 65536).toInt32 = 114) (H : Heap) (locs : List Loc) (hK : va_K (dC, dI) vwCl [(co, .long)] s) (hP : va_P (dC, dI) vwCl [(x, .inr (15, [.ref sh, .ref tl, .ref tw, .int 0])), (sh, .inr (13, [.ref rg, .ref dk, .ref hd, .ref lg, .ref pl, .ref pr, .int 0, .int 0, .int 0, .int 0, .int 0, .int 0, .int 0, .int 0, .int 0, .int 0, .int 0])), (mo, .inr (19, [.int 0, .int 0, .int 0, .int 0, .int 0, .int 0, .int 0, .ref ti, .ref si, .ref lo, .ref lh, .ref lk, .ref sp, .ref st, .ref pa, .ref br, .ref sg, .int 0, .int 0, .int 0, .int 0, .int 0, .int 0, .long 0, .long 0, .long 0, .long 0, .int 0])), (ou, .inl (co, 1, .inr (.inl of_)))] H) (hD : va_D A [(x, .inr (15, [.ref sh, .ref tl, .ref tw, .int 0])), (sh, .inr (13, [.ref rg, .ref dk, .ref hd, .ref lg, .ref pl, .ref pr, .int 0, .int 0, .int 0, .int 0, .int 0, .int 0, .int 0, .int 0, .int 0, .int 0, .int 0])), (mo, .inr (19, [.int 0, .int 0, .int 0, .int 0, .int 0, .int 0, .int 0, .ref ti, .ref si, .ref lo, .ref lh, .ref lk, .ref sp, .ref st, .ref pa, .ref br, .ref sg, .int 0, .int 0, .int 0, .int 0, .int 0, .int 0, .long 0, .long 0, .long 0, .long 0, .int 0])), (ou, .inl (co, 1, .inr (.inl of_)))]) (hS : va_S A s.heap H locs) (ls : Array Slot) (hl : lv_has ls 10 [(0, .ref b), (1, .ref x), (2, .ref mo), (3, .ref ou), (4, .ref od_), (5, .int 0)]) : W p l e room_1 s m #[Value.ref b] below meth c H locs 100 1400 (lw_Z below #[Value.ref b] s) (F0 m 403 ls []) := by
  obtain ⟨hx, hb, hr, hml, hown, hts, hX, hbl, hlocks, hgv⟩ := id C0
  have hbA : ¬ A b := fun h => absurd (hAl b h) (Nat.not_le.mpr hbl)
  refine lv_aload_n hx hb dL_law_403 rfl (lv_at hl 1 rfl) ?_
  refine lv_aload_n hx hb dL_law_404 rfl (lv_at hl 0 rfl) ?_
  refine lv_iload hx hb dL_law_405 (lv_at hl 5 rfl) ?_
  refine lv_iconst (v := 1) hx hb dL_law_407 (by decide) ?_
  refine lv_iadd hx hb dL_law_408 ?_
  refine kc_i (y := 1) (by decide +kernel) ?_
  refine va_sld hx hb hX hbl hbA hS (pk_in 1 4 (by decide) rfl) dL_law_409 ?_
  refine kc_i (y := rw) (hs1 : xs 1 = rw) ?_
  refine lv_i2c (v := 114) hx hb dL_law_410 hch ?_
  refine lv_aload_n hx hb dL_law_411 rfl (lv_at hl 0 rfl) ?_
  refine lv_iload hx hb dL_law_412 (lv_at hl 5 rfl) ?_
  refine lv_iconst (v := 2) hx hb dL_law_414 (by decide) ?_
  refine lv_iadd hx hb dL_law_415 ?_
  refine kc_i (y := 2) (by decide +kernel) ?_
  refine va_sld hx hb hX hbl hbA hS (pk_in 2 4 (by decide) rfl) dL_law_416 ?_
  refine kc_i (y := p1) (hs2 : xs 2 = p1) ?_
  refine lv_aload_n hx hb dL_law_417 rfl (lv_at hl 0 rfl) ?_
  refine lv_iload hx hb dL_law_418 (lv_at hl 5 rfl) ?_
  refine lv_iconst (v := 3) hx hb dL_law_420 (by decide) ?_
  refine lv_iadd hx hb dL_law_421 ?_
  refine kc_i (y := 3) (by decide +kernel) ?_
  refine va_sld hx hb hX hbl hbA hS (pk_in 3 4 (by decide) rfl) dL_law_422 ?_
  refine kc_i (y := p2) (hs3 : xs 3 = p2) ?_
  refine lv_aload_n hx hb dL_law_423 rfl (lv_at hl 3 rfl) ?_
  have hPc := hP.sub (ws' := [(x, .inr (15, [.ref sh, .ref tl, .ref tw, .int 0])), (sh, .inr (13, [.ref rg, .ref dk, .ref hd, .ref lg, .ref pl, .ref pr, .int 0, .int 0, .int 0, .int 0, .int 0, .int 0, .int 0, .int 0, .int 0, .int 0, .int 0])), (ou, .inl (co, 1, .inr (.inl of_)))]) [0, 1, 3] rfl
  have hDc := hD.sub (ws' := [(x, .inr (15, [.ref sh, .ref tl, .ref tw, .int 0])), (sh, .inr (13, [.ref rg, .ref dk, .ref hd, .ref lg, .ref pl, .ref pr, .int 0, .int 0, .int 0, .int 0, .int 0, .int 0, .int 0, .int 0, .int 0, .int 0, .int 0])), (ou, .inl (co, 1, .inr (.inl of_)))]) [0, 1, 3] (by decide) rfl
  have hKc := hK.sub (tys' := [(co, .long)]) [0] rfl
  have hFc := va_free (wc := [(x, .inr (15, [.ref sh, .ref tl, .ref tw, .int 0])), (sh, .inr (13, [.ref rg, .ref dk, .ref hd, .ref lg, .ref pl, .ref pr, .int 0, .int 0, .int 0, .int 0, .int 0, .int 0, .int 0, .int 0, .int 0, .int 0, .int 0])), (ou, .inl (co, 1, .inr (.inl of_)))]) hD hS hA [0, 1, 3] rfl
  refine va_calli (vx_runSW (As := [.ref x, .int 114, .int p1, .int p2, .ref ou]) (rest := []) ⟨hx, hb, hml, hown, hts⟩ (k_l_order_bad l dC dI z zK zV sh rg dk hd lg pl pr x tl tw 114 p1 p2 ou co of_ H.size hst (hb0)) (vx_cwSW 5 hts hL_L_order_110 rfl rfl rfl (by decide +kernel) ⟨Nat.le_of_ble_eq_true rfl, Nat.le_of_ble_eq_true rfl⟩) ⟨kP_blind, kP_go hPc hKc hDc hFc hM hS⟩ rfl rfl hl.1 rfl (lv_room (Nat.le_of_ble_eq_true rfl)) dL_law_424 ⟨Nat.le_of_ble_eq_true rfl, Nat.le_of_ble_eq_true rfl⟩) hS (fun q _ h => hFc q h) hFc (fun r1 u t H1 locs ht hvm hw hB hz1 hk1 hS => ?_)
  obtain ⟨hP, hD, hK⟩ := kJ (wr := [(mo, .inr (19, [.int 0, .int 0, .int 0, .int 0, .int 0, .int 0, .int 0, .ref ti, .ref si, .ref lo, .ref lh, .ref lk, .ref sp, .ref st, .ref pa, .ref br, .ref sg, .int 0, .int 0, .int 0, .int 0, .int 0, .int 0, .long 0, .long 0, .long 0, .long 0, .int 0]))]) (w1 := []) (t1 := []) hP hD hK [0, 1, 3] [2] rfl rfl (by decide) (by decide) hk1 hFc ht hvm hB
  generalize H1 = H at hP hS ⊢
  have hP : va_P (dC, dI) vwCl [(mo, .inr (19, [.int 0, .int 0, .int 0, .int 0, .int 0, .int 0, .int 0, .ref ti, .ref si, .ref lo, .ref lh, .ref lk, .ref sp, .ref st, .ref pa, .ref br, .ref sg, .int 0, .int 0, .int 0, .int 0, .int 0, .int 0, .long 0, .long 0, .long 0, .long 0, .int 0]))] H := hP
  have hD : va_D A [(mo, .inr (19, [.int 0, .int 0, .int 0, .int 0, .int 0, .int 0, .int 0, .ref ti, .ref si, .ref lo, .ref lh, .ref lk, .ref sp, .ref st, .ref pa, .ref br, .ref sg, .int 0, .int 0, .int 0, .int 0, .int 0, .int 0, .long 0, .long 0, .long 0, .long 0, .int 0]))] := hD
  have hK : va_K (dC, dI) vwCl [(co, .long)] s := hK
  obtain rfl : 1 = r1 := hw
  refine lv_istore (lv' := [(6, .int 1), (0, .ref b), (1, .ref x), (2, .ref mo), (3, .ref ou), (4, .ref od_), (5, .int 0)]) hx hb dL_law_427 hl (by decide) rfl (fun ls hl => ?_)
  refine lv_aload_n hx hb dL_law_429 rfl (lv_at hl 3 rfl) ?_
  refine lv_aload_n hx hb dL_law_430 rfl (lv_at hl 1 rfl) ?_
  refine lv_iload hx hb dL_law_431 (lv_at hl 6 rfl) ?_
  refine lv_iconst (v := 1) hx hb dL_law_433 (by decide) ?_
  refine lv_iadd hx hb dL_law_434 ?_
  refine kc_i (y := 1) (by decide +kernel) ?_
  refine va_sld hx hb hX hbl hbA hS (pk_in 1 4 (by decide) rfl) dL_law_435 ?_
  refine kc_i (y := rw) (hs1 : xs 1 = rw) ?_
  refine lv_i2c (v := 114) hx hb dL_law_436 hch ?_
  refine lv_aload_n hx hb dL_law_437 rfl (lv_at hl 1 rfl) ?_
  refine lv_iload hx hb dL_law_438 (lv_at hl 6 rfl) ?_
  refine lv_iconst (v := 2) hx hb dL_law_440 (by decide) ?_
  refine lv_iadd hx hb dL_law_441 ?_
  refine kc_i (y := 2) (by decide +kernel) ?_
  refine va_sld hx hb hX hbl hbA hS (pk_in 2 4 (by decide) rfl) dL_law_442 ?_
  refine kc_i (y := p1) (hs2 : xs 2 = p1) ?_
  refine lv_aload_n hx hb dL_law_443 rfl (lv_at hl 1 rfl) ?_
  refine lv_iload hx hb dL_law_444 (lv_at hl 6 rfl) ?_
  refine lv_iconst (v := 3) hx hb dL_law_446 (by decide) ?_
  refine lv_iadd hx hb dL_law_447 ?_
  refine kc_i (y := 3) (by decide +kernel) ?_
  refine va_sld hx hb hX hbl hbA hS (pk_in 3 4 (by decide) rfl) dL_law_448 ?_
  refine kc_i (y := p2) (hs3 : xs 3 = p2) ?_
  have hPc := hP.sub (ws' := [(mo, .inr (19, [.int 0, .int 0, .int 0, .int 0, .int 0, .int 0, .int 0, .ref ti, .ref si, .ref lo, .ref lh, .ref lk, .ref sp, .ref st, .ref pa, .ref br, .ref sg, .int 0, .int 0, .int 0, .int 0, .int 0, .int 0, .long 0, .long 0, .long 0, .long 0, .int 0]))]) [0] rfl
  have hDc := hD.sub (ws' := [(mo, .inr (19, [.int 0, .int 0, .int 0, .int 0, .int 0, .int 0, .int 0, .ref ti, .ref si, .ref lo, .ref lh, .ref lk, .ref sp, .ref st, .ref pa, .ref br, .ref sg, .int 0, .int 0, .int 0, .int 0, .int 0, .int 0, .long 0, .long 0, .long 0, .long 0, .int 0]))]) [0] (by decide) rfl
  have hKc := hK.sub (tys' := []) [] rfl
  have hFc := va_free (wc := [(mo, .inr (19, [.int 0, .int 0, .int 0, .int 0, .int 0, .int 0, .int 0, .ref ti, .ref si, .ref lo, .ref lh, .ref lk, .ref sp, .ref st, .ref pa, .ref br, .ref sg, .int 0, .int 0, .int 0, .int 0, .int 0, .int 0, .long 0, .long 0, .long 0, .long 0, .int 0]))]) hD hS hA [0] rfl
  refine va_calli (va_runV (As := [.int 114, .int p1, .int p2]) (rest := []) ⟨hx, hb, hml, hown, hts⟩ (k_m_order_bad114 l dC dI z zK zV p1 p2 mo ti si lo lh lk sp st pa br sg 0 H.size (hb0)) (cwV 3 hts hL_X15_order_113 rfl rfl rfl (by decide +kernel) ⟨Nat.le_of_ble_eq_true rfl, Nat.le_of_ble_eq_true rfl⟩) ⟨kP_blind, va_recv hKc hPc (ci := 19) (q0 := 0) rfl rfl, kP_go hPc hKc hDc hFc hM hS⟩ rfl rfl hl.1 rfl (lv_room (Nat.le_of_ble_eq_true rfl)) dL_law_449 ⟨Nat.le_of_ble_eq_true rfl, Nat.le_of_ble_eq_true rfl⟩) hS (fun q _ h => hFc q h) hFc (fun r2 u t H1 locs ht hvm hw hB hz1 hk1 hS => ?_)
  obtain ⟨hP, hD, hK⟩ := kJ (wr := []) (w1 := [(mo, .inr (19, [.int 0, .int 0, .int 0, .int 0, .int 0, .int 0, .int 0, .ref ti, .ref si, .ref lo, .ref lh, .ref lk, .ref sp, .ref st, .ref pa, .ref br, .ref sg, .int 0, .int 0, .int 0, .int 0, .int 0, .int 0, .long 0, .long 0, .long 0, .long 0, .int 1]))]) (t1 := []) hP hD hK [0] [] rfl rfl (by decide) (by decide) hk1 hFc ht hvm hB
  generalize H1 = H at hP hS ⊢
  have hP : va_P (dC, dI) vwCl [(mo, .inr (19, [.int 0, .int 0, .int 0, .int 0, .int 0, .int 0, .int 0, .ref ti, .ref si, .ref lo, .ref lh, .ref lk, .ref sp, .ref st, .ref pa, .ref br, .ref sg, .int 0, .int 0, .int 0, .int 0, .int 0, .int 0, .long 0, .long 0, .long 0, .long 0, .int 1]))] H := hP
  have hD : va_D A [(mo, .inr (19, [.int 0, .int 0, .int 0, .int 0, .int 0, .int 0, .int 0, .ref ti, .ref si, .ref lo, .ref lh, .ref lk, .ref sp, .ref st, .ref pa, .ref br, .ref sg, .int 0, .int 0, .int 0, .int 0, .int 0, .int 0, .long 0, .long 0, .long 0, .long 0, .int 1]))] := hD
  have hK : va_K (dC, dI) vwCl [(co, .long)] s := hK
  obtain rfl : (-1) = r2 := hw
  refine lv_istore (lv' := [(7, .int (-1)), (6, .int 1), (0, .ref b), (1, .ref x), (2, .ref mo), (3, .ref ou), (4, .ref od_), (5, .int 0)]) hx hb dL_law_452 hl (by decide) rfl (fun ls hl => ?_)
  refine lv_aload_n hx hb dL_law_454 rfl (lv_at hl 4 rfl) ?_
  have hPc := hP.sub (ws' := [(mo, .inr (19, [.int 0, .int 0, .int 0, .int 0, .int 0, .int 0, .int 0, .ref ti, .ref si, .ref lo, .ref lh, .ref lk, .ref sp, .ref st, .ref pa, .ref br, .ref sg, .int 0, .int 0, .int 0, .int 0, .int 0, .int 0, .long 0, .long 0, .long 0, .long 0, .int 1]))]) [0] rfl
  have hDc := hD.sub (ws' := [(mo, .inr (19, [.int 0, .int 0, .int 0, .int 0, .int 0, .int 0, .int 0, .ref ti, .ref si, .ref lo, .ref lh, .ref lk, .ref sp, .ref st, .ref pa, .ref br, .ref sg, .int 0, .int 0, .int 0, .int 0, .int 0, .int 0, .long 0, .long 0, .long 0, .long 0, .int 1]))]) [0] (by decide) rfl
  have hKc := hK.sub (tys' := []) [] rfl
  have hFc := va_free (wc := [(mo, .inr (19, [.int 0, .int 0, .int 0, .int 0, .int 0, .int 0, .int 0, .ref ti, .ref si, .ref lo, .ref lh, .ref lk, .ref sp, .ref st, .ref pa, .ref br, .ref sg, .int 0, .int 0, .int 0, .int 0, .int 0, .int 0, .long 0, .long 0, .long 0, .long 0, .int 1]))]) hD hS hA [0] rfl
  refine va_calli (va_runV (As := []) (rest := []) ⟨hx, hb, hml, hown, hts⟩ (k_m_thrown l dC dI z zK zV mo ti si lo lh lk sp st pa br sg 0 0 0 0 0 0 0 0 0 0 0 0 0 0 0 0 0 1 H.size) (cwV 0 hts hL_X15_thrown_100 rfl rfl rfl (by decide +kernel) ⟨Nat.le_of_ble_eq_true rfl, Nat.le_of_ble_eq_true rfl⟩) ⟨kP_blind, va_recv hKc hPc (ci := 19) (q0 := 0) rfl rfl, kP_go hPc hKc hDc hFc hM hS⟩ rfl rfl hl.1 rfl (lv_room (Nat.le_of_ble_eq_true rfl)) dL_law_455 ⟨Nat.le_of_ble_eq_true rfl, Nat.le_of_ble_eq_true rfl⟩) hS (fun q _ h => hFc q h) hFc (fun r3 u t H1 locs ht hvm hw hB hz1 hk1 hS => ?_)
  obtain ⟨hP, hD, hK⟩ := kJ (wr := []) (w1 := [(mo, .inr (19, [.int 0, .int 0, .int 0, .int 0, .int 0, .int 0, .int 0, .ref ti, .ref si, .ref lo, .ref lh, .ref lk, .ref sp, .ref st, .ref pa, .ref br, .ref sg, .int 0, .int 0, .int 0, .int 0, .int 0, .int 0, .long 0, .long 0, .long 0, .long 0, .int 1]))]) (t1 := []) hP hD hK [0] [] rfl rfl (by decide) (by decide) hk1 hFc ht hvm hB
  generalize H1 = H at hP hS ⊢
  have hP : va_P (dC, dI) vwCl [(mo, .inr (19, [.int 0, .int 0, .int 0, .int 0, .int 0, .int 0, .int 0, .ref ti, .ref si, .ref lo, .ref lh, .ref lk, .ref sp, .ref st, .ref pa, .ref br, .ref sg, .int 0, .int 0, .int 0, .int 0, .int 0, .int 0, .long 0, .long 0, .long 0, .long 0, .int 1]))] H := hP
  have hD : va_D A [(mo, .inr (19, [.int 0, .int 0, .int 0, .int 0, .int 0, .int 0, .int 0, .ref ti, .ref si, .ref lo, .ref lh, .ref lk, .ref sp, .ref st, .ref pa, .ref br, .ref sg, .int 0, .int 0, .int 0, .int 0, .int 0, .int 0, .long 0, .long 0, .long 0, .long 0, .int 1]))] := hD
  have hK : va_K (dC, dI) vwCl [(co, .long)] s := hK
  obtain rfl : 1 = r3 := hw
  refine lv_iload hx hb dL_law_458 (lv_at hl 1 rfl) ?_
  refine lv_icmp_eq (tgt := 465) hx hb dL_law_460 (by decide) (fun _ => ?_) (fun c_ => absurd (by decide +kernel) c_)
  refine lv_iload hx hb dL_law_465 (lv_at hl 1 rfl) ?_
  refine lv_if_ne (tgt := 482) hx hb dL_law_467 (by decide) (fun _ => ?_) (fun c_ => absurd c_ (by decide +kernel))
  refine lv_goto (tgt := 1684) hx hb dL_law_482 (by decide) ?_
  exact la_tail (dC := dC) (dI := dI) hst C0 hM hA hAl H locs hS ls (lv_sub hl [2, 7] rfl) (by omega) (by omega)
set_option maxHeartbeats 8000000 in
set_option maxRecDepth 100000 in
theorem la_order_bado {p : Program} {l : Launch} {e : Env} {s : State} {m : MethodId} {below : List Frame} {meth : Method} {c : Code} {dC : Nat → ClassId} {dI : Nat → Nat → Nat} {z zK zV : Nat → Nat} {b : Nat} {xs : Nat → Int32} {A : Nat → Prop} (hst : l.stackTraces = false) (C0 : lw_At p s m meth c b 4 xs) (hM : am z zK zV A s s.heap) (hA : ∀ q : Nat, s.heap.size ≤ q → A q) (hAl : ∀ q : Nat, A q → s.heap.size ≤ q) (sh : Nat) (rg : Nat) (dk : Nat) (hd : Nat) (lg : Nat) (pl : Nat) (pr : Nat) (x : Nat) (tl : Nat) (tw : Nat) (p0 : Int32) (p1 : Int32) (p2 : Int32) (mo : Nat) (ti : Nat) (si : Nat) (lo : Nat) (lh : Nat) (lk : Nat) (sp : Nat) (st : Nat) (pa : Nat) (br : Nat) (sg : Nat) (ou : Nat) (co : ClassId) (of_ : Nat → Int64) (od_ : Nat) (rw : Int32) (h115 : ¬ p0 = 115) (h98 : ¬ p0 = 98) (h109 : ¬ p0 = 109) (h114 : ¬ p0 = 114) (hs1 : xs 1 = rw) (hs2 : xs 2 = p1) (hs3 : xs 3 = p2) (hch : (rw.toUInt32 % 65536).toInt32 = p0) (H : Heap) (locs : List Loc) (hK : va_K (dC, dI) vwCl [(co, .long)] s) (hP : va_P (dC, dI) vwCl [(x, .inr (15, [.ref sh, .ref tl, .ref tw, .int 0])), (sh, .inr (13, [.ref rg, .ref dk, .ref hd, .ref lg, .ref pl, .ref pr, .int 0, .int 0, .int 0, .int 0, .int 0, .int 0, .int 0, .int 0, .int 0, .int 0, .int 0])), (mo, .inr (19, [.int 0, .int 0, .int 0, .int 0, .int 0, .int 0, .int 0, .ref ti, .ref si, .ref lo, .ref lh, .ref lk, .ref sp, .ref st, .ref pa, .ref br, .ref sg, .int 0, .int 0, .int 0, .int 0, .int 0, .int 0, .long 0, .long 0, .long 0, .long 0, .int 0])), (ou, .inl (co, 1, .inr (.inl of_)))] H) (hD : va_D A [(x, .inr (15, [.ref sh, .ref tl, .ref tw, .int 0])), (sh, .inr (13, [.ref rg, .ref dk, .ref hd, .ref lg, .ref pl, .ref pr, .int 0, .int 0, .int 0, .int 0, .int 0, .int 0, .int 0, .int 0, .int 0, .int 0, .int 0])), (mo, .inr (19, [.int 0, .int 0, .int 0, .int 0, .int 0, .int 0, .int 0, .ref ti, .ref si, .ref lo, .ref lh, .ref lk, .ref sp, .ref st, .ref pa, .ref br, .ref sg, .int 0, .int 0, .int 0, .int 0, .int 0, .int 0, .long 0, .long 0, .long 0, .long 0, .int 0])), (ou, .inl (co, 1, .inr (.inl of_)))]) (hS : va_S A s.heap H locs) (ls : Array Slot) (hl : lv_has ls 10 [(0, .ref b), (1, .ref x), (2, .ref mo), (3, .ref ou), (4, .ref od_), (5, .int 0)]) : W p l e room_1 s m #[Value.ref b] below meth c H locs 100 1400 (lw_Z below #[Value.ref b] s) (F0 m 403 ls []) := by
  obtain ⟨hx, hb, hr, hml, hown, hts, hX, hbl, hlocks, hgv⟩ := id C0
  have hbA : ¬ A b := fun h => absurd (hAl b h) (Nat.not_le.mpr hbl)
  refine lv_aload_n hx hb dL_law_403 rfl (lv_at hl 1 rfl) ?_
  refine lv_aload_n hx hb dL_law_404 rfl (lv_at hl 0 rfl) ?_
  refine lv_iload hx hb dL_law_405 (lv_at hl 5 rfl) ?_
  refine lv_iconst (v := 1) hx hb dL_law_407 (by decide) ?_
  refine lv_iadd hx hb dL_law_408 ?_
  refine kc_i (y := 1) (by decide +kernel) ?_
  refine va_sld hx hb hX hbl hbA hS (pk_in 1 4 (by decide) rfl) dL_law_409 ?_
  refine kc_i (y := rw) (hs1 : xs 1 = rw) ?_
  refine lv_i2c (v := p0) hx hb dL_law_410 hch ?_
  refine lv_aload_n hx hb dL_law_411 rfl (lv_at hl 0 rfl) ?_
  refine lv_iload hx hb dL_law_412 (lv_at hl 5 rfl) ?_
  refine lv_iconst (v := 2) hx hb dL_law_414 (by decide) ?_
  refine lv_iadd hx hb dL_law_415 ?_
  refine kc_i (y := 2) (by decide +kernel) ?_
  refine va_sld hx hb hX hbl hbA hS (pk_in 2 4 (by decide) rfl) dL_law_416 ?_
  refine kc_i (y := p1) (hs2 : xs 2 = p1) ?_
  refine lv_aload_n hx hb dL_law_417 rfl (lv_at hl 0 rfl) ?_
  refine lv_iload hx hb dL_law_418 (lv_at hl 5 rfl) ?_
  refine lv_iconst (v := 3) hx hb dL_law_420 (by decide) ?_
  refine lv_iadd hx hb dL_law_421 ?_
  refine kc_i (y := 3) (by decide +kernel) ?_
  refine va_sld hx hb hX hbl hbA hS (pk_in 3 4 (by decide) rfl) dL_law_422 ?_
  refine kc_i (y := p2) (hs3 : xs 3 = p2) ?_
  refine lv_aload_n hx hb dL_law_423 rfl (lv_at hl 3 rfl) ?_
  have hPc := hP.sub (ws' := [(x, .inr (15, [.ref sh, .ref tl, .ref tw, .int 0])), (sh, .inr (13, [.ref rg, .ref dk, .ref hd, .ref lg, .ref pl, .ref pr, .int 0, .int 0, .int 0, .int 0, .int 0, .int 0, .int 0, .int 0, .int 0, .int 0, .int 0])), (ou, .inl (co, 1, .inr (.inl of_)))]) [0, 1, 3] rfl
  have hDc := hD.sub (ws' := [(x, .inr (15, [.ref sh, .ref tl, .ref tw, .int 0])), (sh, .inr (13, [.ref rg, .ref dk, .ref hd, .ref lg, .ref pl, .ref pr, .int 0, .int 0, .int 0, .int 0, .int 0, .int 0, .int 0, .int 0, .int 0, .int 0, .int 0])), (ou, .inl (co, 1, .inr (.inl of_)))]) [0, 1, 3] (by decide) rfl
  have hKc := hK.sub (tys' := [(co, .long)]) [0] rfl
  have hFc := va_free (wc := [(x, .inr (15, [.ref sh, .ref tl, .ref tw, .int 0])), (sh, .inr (13, [.ref rg, .ref dk, .ref hd, .ref lg, .ref pl, .ref pr, .int 0, .int 0, .int 0, .int 0, .int 0, .int 0, .int 0, .int 0, .int 0, .int 0, .int 0])), (ou, .inl (co, 1, .inr (.inl of_)))]) hD hS hA [0, 1, 3] rfl
  refine va_calli (vx_runSW (As := [.ref x, .int p0, .int p1, .int p2, .ref ou]) (rest := []) ⟨hx, hb, hml, hown, hts⟩ (k_l_order_bad l dC dI z zK zV sh rg dk hd lg pl pr x tl tw p0 p1 p2 ou co of_ H.size hst ((kO_o h115 h98 h109 h114))) (vx_cwSW 5 hts hL_L_order_110 rfl rfl rfl (by decide +kernel) ⟨Nat.le_of_ble_eq_true rfl, Nat.le_of_ble_eq_true rfl⟩) ⟨kP_blind, kP_go hPc hKc hDc hFc hM hS⟩ rfl rfl hl.1 rfl (lv_room (Nat.le_of_ble_eq_true rfl)) dL_law_424 ⟨Nat.le_of_ble_eq_true rfl, Nat.le_of_ble_eq_true rfl⟩) hS (fun q _ h => hFc q h) hFc (fun r1 u t H1 locs ht hvm hw hB hz1 hk1 hS => ?_)
  obtain ⟨hP, hD, hK⟩ := kJ (wr := [(mo, .inr (19, [.int 0, .int 0, .int 0, .int 0, .int 0, .int 0, .int 0, .ref ti, .ref si, .ref lo, .ref lh, .ref lk, .ref sp, .ref st, .ref pa, .ref br, .ref sg, .int 0, .int 0, .int 0, .int 0, .int 0, .int 0, .long 0, .long 0, .long 0, .long 0, .int 0]))]) (w1 := []) (t1 := []) hP hD hK [0, 1, 3] [2] rfl rfl (by decide) (by decide) hk1 hFc ht hvm hB
  generalize H1 = H at hP hS ⊢
  have hP : va_P (dC, dI) vwCl [(mo, .inr (19, [.int 0, .int 0, .int 0, .int 0, .int 0, .int 0, .int 0, .ref ti, .ref si, .ref lo, .ref lh, .ref lk, .ref sp, .ref st, .ref pa, .ref br, .ref sg, .int 0, .int 0, .int 0, .int 0, .int 0, .int 0, .long 0, .long 0, .long 0, .long 0, .int 0]))] H := hP
  have hD : va_D A [(mo, .inr (19, [.int 0, .int 0, .int 0, .int 0, .int 0, .int 0, .int 0, .ref ti, .ref si, .ref lo, .ref lh, .ref lk, .ref sp, .ref st, .ref pa, .ref br, .ref sg, .int 0, .int 0, .int 0, .int 0, .int 0, .int 0, .long 0, .long 0, .long 0, .long 0, .int 0]))] := hD
  have hK : va_K (dC, dI) vwCl [(co, .long)] s := hK
  obtain rfl : 1 = r1 := hw
  refine lv_istore (lv' := [(6, .int 1), (0, .ref b), (1, .ref x), (2, .ref mo), (3, .ref ou), (4, .ref od_), (5, .int 0)]) hx hb dL_law_427 hl (by decide) rfl (fun ls hl => ?_)
  refine lv_aload_n hx hb dL_law_429 rfl (lv_at hl 3 rfl) ?_
  refine lv_aload_n hx hb dL_law_430 rfl (lv_at hl 1 rfl) ?_
  refine lv_iload hx hb dL_law_431 (lv_at hl 6 rfl) ?_
  refine lv_iconst (v := 1) hx hb dL_law_433 (by decide) ?_
  refine lv_iadd hx hb dL_law_434 ?_
  refine kc_i (y := 1) (by decide +kernel) ?_
  refine va_sld hx hb hX hbl hbA hS (pk_in 1 4 (by decide) rfl) dL_law_435 ?_
  refine kc_i (y := rw) (hs1 : xs 1 = rw) ?_
  refine lv_i2c (v := p0) hx hb dL_law_436 hch ?_
  refine lv_aload_n hx hb dL_law_437 rfl (lv_at hl 1 rfl) ?_
  refine lv_iload hx hb dL_law_438 (lv_at hl 6 rfl) ?_
  refine lv_iconst (v := 2) hx hb dL_law_440 (by decide) ?_
  refine lv_iadd hx hb dL_law_441 ?_
  refine kc_i (y := 2) (by decide +kernel) ?_
  refine va_sld hx hb hX hbl hbA hS (pk_in 2 4 (by decide) rfl) dL_law_442 ?_
  refine kc_i (y := p1) (hs2 : xs 2 = p1) ?_
  refine lv_aload_n hx hb dL_law_443 rfl (lv_at hl 1 rfl) ?_
  refine lv_iload hx hb dL_law_444 (lv_at hl 6 rfl) ?_
  refine lv_iconst (v := 3) hx hb dL_law_446 (by decide) ?_
  refine lv_iadd hx hb dL_law_447 ?_
  refine kc_i (y := 3) (by decide +kernel) ?_
  refine va_sld hx hb hX hbl hbA hS (pk_in 3 4 (by decide) rfl) dL_law_448 ?_
  refine kc_i (y := p2) (hs3 : xs 3 = p2) ?_
  have hPc := hP.sub (ws' := [(mo, .inr (19, [.int 0, .int 0, .int 0, .int 0, .int 0, .int 0, .int 0, .ref ti, .ref si, .ref lo, .ref lh, .ref lk, .ref sp, .ref st, .ref pa, .ref br, .ref sg, .int 0, .int 0, .int 0, .int 0, .int 0, .int 0, .long 0, .long 0, .long 0, .long 0, .int 0]))]) [0] rfl
  have hDc := hD.sub (ws' := [(mo, .inr (19, [.int 0, .int 0, .int 0, .int 0, .int 0, .int 0, .int 0, .ref ti, .ref si, .ref lo, .ref lh, .ref lk, .ref sp, .ref st, .ref pa, .ref br, .ref sg, .int 0, .int 0, .int 0, .int 0, .int 0, .int 0, .long 0, .long 0, .long 0, .long 0, .int 0]))]) [0] (by decide) rfl
  have hKc := hK.sub (tys' := []) [] rfl
  have hFc := va_free (wc := [(mo, .inr (19, [.int 0, .int 0, .int 0, .int 0, .int 0, .int 0, .int 0, .ref ti, .ref si, .ref lo, .ref lh, .ref lk, .ref sp, .ref st, .ref pa, .ref br, .ref sg, .int 0, .int 0, .int 0, .int 0, .int 0, .int 0, .long 0, .long 0, .long 0, .long 0, .int 0]))]) hD hS hA [0] rfl
  refine va_calli (va_runV (As := [.int p0, .int p1, .int p2]) (rest := []) ⟨hx, hb, hml, hown, hts⟩ (k_m_order_bado l dC dI z zK zV p0 p1 p2 mo ti si lo lh lk sp st pa br sg 0 H.size (h115) (h98) (h109) (h114)) (cwV 3 hts hL_X15_order_113 rfl rfl rfl (by decide +kernel) ⟨Nat.le_of_ble_eq_true rfl, Nat.le_of_ble_eq_true rfl⟩) ⟨kP_blind, va_recv hKc hPc (ci := 19) (q0 := 0) rfl rfl, kP_go hPc hKc hDc hFc hM hS⟩ rfl rfl hl.1 rfl (lv_room (Nat.le_of_ble_eq_true rfl)) dL_law_449 ⟨Nat.le_of_ble_eq_true rfl, Nat.le_of_ble_eq_true rfl⟩) hS (fun q _ h => hFc q h) hFc (fun r2 u t H1 locs ht hvm hw hB hz1 hk1 hS => ?_)
  obtain ⟨hP, hD, hK⟩ := kJ (wr := []) (w1 := [(mo, .inr (19, [.int 0, .int 0, .int 0, .int 0, .int 0, .int 0, .int 0, .ref ti, .ref si, .ref lo, .ref lh, .ref lk, .ref sp, .ref st, .ref pa, .ref br, .ref sg, .int 0, .int 0, .int 0, .int 0, .int 0, .int 0, .long 0, .long 0, .long 0, .long 0, .int 1]))]) (t1 := []) hP hD hK [0] [] rfl rfl (by decide) (by decide) hk1 hFc ht hvm hB
  generalize H1 = H at hP hS ⊢
  have hP : va_P (dC, dI) vwCl [(mo, .inr (19, [.int 0, .int 0, .int 0, .int 0, .int 0, .int 0, .int 0, .ref ti, .ref si, .ref lo, .ref lh, .ref lk, .ref sp, .ref st, .ref pa, .ref br, .ref sg, .int 0, .int 0, .int 0, .int 0, .int 0, .int 0, .long 0, .long 0, .long 0, .long 0, .int 1]))] H := hP
  have hD : va_D A [(mo, .inr (19, [.int 0, .int 0, .int 0, .int 0, .int 0, .int 0, .int 0, .ref ti, .ref si, .ref lo, .ref lh, .ref lk, .ref sp, .ref st, .ref pa, .ref br, .ref sg, .int 0, .int 0, .int 0, .int 0, .int 0, .int 0, .long 0, .long 0, .long 0, .long 0, .int 1]))] := hD
  have hK : va_K (dC, dI) vwCl [(co, .long)] s := hK
  obtain rfl : (-1) = r2 := hw
  refine lv_istore (lv' := [(7, .int (-1)), (6, .int 1), (0, .ref b), (1, .ref x), (2, .ref mo), (3, .ref ou), (4, .ref od_), (5, .int 0)]) hx hb dL_law_452 hl (by decide) rfl (fun ls hl => ?_)
  refine lv_aload_n hx hb dL_law_454 rfl (lv_at hl 4 rfl) ?_
  have hPc := hP.sub (ws' := [(mo, .inr (19, [.int 0, .int 0, .int 0, .int 0, .int 0, .int 0, .int 0, .ref ti, .ref si, .ref lo, .ref lh, .ref lk, .ref sp, .ref st, .ref pa, .ref br, .ref sg, .int 0, .int 0, .int 0, .int 0, .int 0, .int 0, .long 0, .long 0, .long 0, .long 0, .int 1]))]) [0] rfl
  have hDc := hD.sub (ws' := [(mo, .inr (19, [.int 0, .int 0, .int 0, .int 0, .int 0, .int 0, .int 0, .ref ti, .ref si, .ref lo, .ref lh, .ref lk, .ref sp, .ref st, .ref pa, .ref br, .ref sg, .int 0, .int 0, .int 0, .int 0, .int 0, .int 0, .long 0, .long 0, .long 0, .long 0, .int 1]))]) [0] (by decide) rfl
  have hKc := hK.sub (tys' := []) [] rfl
  have hFc := va_free (wc := [(mo, .inr (19, [.int 0, .int 0, .int 0, .int 0, .int 0, .int 0, .int 0, .ref ti, .ref si, .ref lo, .ref lh, .ref lk, .ref sp, .ref st, .ref pa, .ref br, .ref sg, .int 0, .int 0, .int 0, .int 0, .int 0, .int 0, .long 0, .long 0, .long 0, .long 0, .int 1]))]) hD hS hA [0] rfl
  refine va_calli (va_runV (As := []) (rest := []) ⟨hx, hb, hml, hown, hts⟩ (k_m_thrown l dC dI z zK zV mo ti si lo lh lk sp st pa br sg 0 0 0 0 0 0 0 0 0 0 0 0 0 0 0 0 0 1 H.size) (cwV 0 hts hL_X15_thrown_100 rfl rfl rfl (by decide +kernel) ⟨Nat.le_of_ble_eq_true rfl, Nat.le_of_ble_eq_true rfl⟩) ⟨kP_blind, va_recv hKc hPc (ci := 19) (q0 := 0) rfl rfl, kP_go hPc hKc hDc hFc hM hS⟩ rfl rfl hl.1 rfl (lv_room (Nat.le_of_ble_eq_true rfl)) dL_law_455 ⟨Nat.le_of_ble_eq_true rfl, Nat.le_of_ble_eq_true rfl⟩) hS (fun q _ h => hFc q h) hFc (fun r3 u t H1 locs ht hvm hw hB hz1 hk1 hS => ?_)
  obtain ⟨hP, hD, hK⟩ := kJ (wr := []) (w1 := [(mo, .inr (19, [.int 0, .int 0, .int 0, .int 0, .int 0, .int 0, .int 0, .ref ti, .ref si, .ref lo, .ref lh, .ref lk, .ref sp, .ref st, .ref pa, .ref br, .ref sg, .int 0, .int 0, .int 0, .int 0, .int 0, .int 0, .long 0, .long 0, .long 0, .long 0, .int 1]))]) (t1 := []) hP hD hK [0] [] rfl rfl (by decide) (by decide) hk1 hFc ht hvm hB
  generalize H1 = H at hP hS ⊢
  have hP : va_P (dC, dI) vwCl [(mo, .inr (19, [.int 0, .int 0, .int 0, .int 0, .int 0, .int 0, .int 0, .ref ti, .ref si, .ref lo, .ref lh, .ref lk, .ref sp, .ref st, .ref pa, .ref br, .ref sg, .int 0, .int 0, .int 0, .int 0, .int 0, .int 0, .long 0, .long 0, .long 0, .long 0, .int 1]))] H := hP
  have hD : va_D A [(mo, .inr (19, [.int 0, .int 0, .int 0, .int 0, .int 0, .int 0, .int 0, .ref ti, .ref si, .ref lo, .ref lh, .ref lk, .ref sp, .ref st, .ref pa, .ref br, .ref sg, .int 0, .int 0, .int 0, .int 0, .int 0, .int 0, .long 0, .long 0, .long 0, .long 0, .int 1]))] := hD
  have hK : va_K (dC, dI) vwCl [(co, .long)] s := hK
  obtain rfl : 1 = r3 := hw
  refine lv_iload hx hb dL_law_458 (lv_at hl 1 rfl) ?_
  refine lv_icmp_eq (tgt := 465) hx hb dL_law_460 (by decide) (fun _ => ?_) (fun c_ => absurd (by decide +kernel) c_)
  refine lv_iload hx hb dL_law_465 (lv_at hl 1 rfl) ?_
  refine lv_if_ne (tgt := 482) hx hb dL_law_467 (by decide) (fun _ => ?_) (fun c_ => absurd c_ (by decide +kernel))
  refine lv_goto (tgt := 1684) hx hb dL_law_482 (by decide) ?_
  exact la_tail (dC := dC) (dI := dI) hst C0 hM hA hAl H locs hS ls (lv_sub hl [2, 7] rfl) (by omega) (by omega)
set_option maxHeartbeats 8000000 in
set_option maxRecDepth 100000 in
theorem la_belay {p : Program} {l : Launch} {e : Env} {s : State} {m : MethodId} {below : List Frame} {meth : Method} {c : Code} {dC : Nat → ClassId} {dI : Nat → Nat → Nat} {z zK zV : Nat → Nat} {b : Nat} {xs : Nat → Int32} {A : Nat → Prop} (hst : l.stackTraces = false) (C0 : lw_At p s m meth c b 4 xs) (hM : am z zK zV A s s.heap) (hA : ∀ q : Nat, s.heap.size ≤ q → A q) (hAl : ∀ q : Nat, A q → s.heap.size ≤ q) (sh : Nat) (rg : Nat) (dk : Nat) (w0 : Nat) (w1 : Nat) (ol : Nat) (hd : Nat) (lg : Nat) (pl : Nat) (pr : Nat) (x : Nat) (tl : Nat) (tw : Nat) (p0 : Int32) (mo : Nat) (ti : Nat) (si : Nat) (lo : Nat) (lh : Nat) (lk : Nat) (sp : Nat) (st : Nat) (pa : Nat) (br : Nat) (sg : Nat) (ou : Nat) (co : ClassId) (of_ : Nat → Int64) (od_ : Nat)  (hs1 : xs 1 = p0) (H : Heap) (locs : List Loc) (hK : va_K (dC, dI) vwCl [(co, .long)] s) (hP : va_P (dC, dI) vwCl [(x, .inr (15, [.ref sh, .ref tl, .ref tw, .int 0])), (sh, .inr (13, [.ref rg, .ref dk, .ref hd, .ref lg, .ref pl, .ref pr, .int 0, .int 0, .int 0, .int 0, .int 0, .int 0, .int 0, .int 0, .int 0, .int 0, .int 0])), (dk, .inr (4, [.ref w0, .ref w1, .ref ol, .int 0, .int 0, .int 0, .int 0])), (ol, .inr (3, [.int 0, .ref (z 0), .int 0])), (mo, .inr (19, [.int 0, .int 0, .int 0, .int 0, .int 0, .int 0, .int 0, .ref ti, .ref si, .ref lo, .ref lh, .ref lk, .ref sp, .ref st, .ref pa, .ref br, .ref sg, .int 0, .int 0, .int 0, .int 0, .int 0, .int 0, .long 0, .long 0, .long 0, .long 0, .int 0])), (lo, .inr (3, [.int 0, .ref (z 0), .int 0])), (ou, .inl (co, 1, .inr (.inl of_)))] H) (hD : va_D A [(x, .inr (15, [.ref sh, .ref tl, .ref tw, .int 0])), (sh, .inr (13, [.ref rg, .ref dk, .ref hd, .ref lg, .ref pl, .ref pr, .int 0, .int 0, .int 0, .int 0, .int 0, .int 0, .int 0, .int 0, .int 0, .int 0, .int 0])), (dk, .inr (4, [.ref w0, .ref w1, .ref ol, .int 0, .int 0, .int 0, .int 0])), (ol, .inr (3, [.int 0, .ref (z 0), .int 0])), (mo, .inr (19, [.int 0, .int 0, .int 0, .int 0, .int 0, .int 0, .int 0, .ref ti, .ref si, .ref lo, .ref lh, .ref lk, .ref sp, .ref st, .ref pa, .ref br, .ref sg, .int 0, .int 0, .int 0, .int 0, .int 0, .int 0, .long 0, .long 0, .long 0, .long 0, .int 0])), (lo, .inr (3, [.int 0, .ref (z 0), .int 0])), (ou, .inl (co, 1, .inr (.inl of_)))]) (hS : va_S A s.heap H locs) (ls : Array Slot) (hl : lv_has ls 10 [(0, .ref b), (1, .ref x), (2, .ref mo), (3, .ref ou), (4, .ref od_), (5, .int 0)]) : W p l e room_1 s m #[Value.ref b] below meth c H locs 100 1400 (lw_Z below #[Value.ref b] s) (F0 m 485 ls []) := by
  obtain ⟨hx, hb, hr, hml, hown, hts, hX, hbl, hlocks, hgv⟩ := id C0
  have hbA : ¬ A b := fun h => absurd (hAl b h) (Nat.not_le.mpr hbl)
  refine lv_aload_n hx hb dL_law_485 rfl (lv_at hl 1 rfl) ?_
  refine lv_aload_n hx hb dL_law_486 rfl (lv_at hl 0 rfl) ?_
  refine lv_iload hx hb dL_law_487 (lv_at hl 5 rfl) ?_
  refine lv_iconst (v := 1) hx hb dL_law_489 (by decide) ?_
  refine lv_iadd hx hb dL_law_490 ?_
  refine kc_i (y := 1) (by decide +kernel) ?_
  refine va_sld hx hb hX hbl hbA hS (pk_in 1 4 (by decide) rfl) dL_law_491 ?_
  refine kc_i (y := p0) (hs1 : xs 1 = p0) ?_
  refine lv_aload_n hx hb dL_law_492 rfl (lv_at hl 3 rfl) ?_
  have hPc := hP.sub (ws' := [(x, .inr (15, [.ref sh, .ref tl, .ref tw, .int 0])), (sh, .inr (13, [.ref rg, .ref dk, .ref hd, .ref lg, .ref pl, .ref pr, .int 0, .int 0, .int 0, .int 0, .int 0, .int 0, .int 0, .int 0, .int 0, .int 0, .int 0])), (dk, .inr (4, [.ref w0, .ref w1, .ref ol, .int 0, .int 0, .int 0, .int 0])), (ol, .inr (3, [.int 0, .ref (z 0), .int 0])), (ou, .inl (co, 1, .inr (.inl of_)))]) [0, 1, 2, 3, 6] rfl
  have hDc := hD.sub (ws' := [(x, .inr (15, [.ref sh, .ref tl, .ref tw, .int 0])), (sh, .inr (13, [.ref rg, .ref dk, .ref hd, .ref lg, .ref pl, .ref pr, .int 0, .int 0, .int 0, .int 0, .int 0, .int 0, .int 0, .int 0, .int 0, .int 0, .int 0])), (dk, .inr (4, [.ref w0, .ref w1, .ref ol, .int 0, .int 0, .int 0, .int 0])), (ol, .inr (3, [.int 0, .ref (z 0), .int 0])), (ou, .inl (co, 1, .inr (.inl of_)))]) [0, 1, 2, 3, 6] (by decide) rfl
  have hKc := hK.sub (tys' := [(co, .long)]) [0] rfl
  have hFc := va_free (wc := [(x, .inr (15, [.ref sh, .ref tl, .ref tw, .int 0])), (sh, .inr (13, [.ref rg, .ref dk, .ref hd, .ref lg, .ref pl, .ref pr, .int 0, .int 0, .int 0, .int 0, .int 0, .int 0, .int 0, .int 0, .int 0, .int 0, .int 0])), (dk, .inr (4, [.ref w0, .ref w1, .ref ol, .int 0, .int 0, .int 0, .int 0])), (ol, .inr (3, [.int 0, .ref (z 0), .int 0])), (ou, .inl (co, 1, .inr (.inl of_)))]) hD hS hA [0, 1, 2, 3, 6] rfl
  refine va_calli (vx_runSW (As := [.ref x, .int p0, .ref ou]) (rest := []) ⟨hx, hb, hml, hown, hts⟩ (k_l_belay l dC dI z zK zV sh rg dk w0 w1 ol hd lg pl pr x tl tw p0 ou co of_ H.size hst) (vx_cwSW 3 hts hL_L_belay_114 rfl rfl rfl (by decide +kernel) ⟨Nat.le_of_ble_eq_true rfl, Nat.le_of_ble_eq_true rfl⟩) ⟨kP_blind, kP_go hPc hKc hDc hFc hM hS⟩ rfl rfl hl.1 rfl (lv_room (Nat.le_of_ble_eq_true rfl)) dL_law_493 ⟨Nat.le_of_ble_eq_true rfl, Nat.le_of_ble_eq_true rfl⟩) hS (fun q _ h => hFc q h) hFc (fun r1 u t H1 locs ht hvm hw hB hz1 hk1 hS => ?_)
  obtain ⟨hP, hD, hK⟩ := kJ (wr := [(mo, .inr (19, [.int 0, .int 0, .int 0, .int 0, .int 0, .int 0, .int 0, .ref ti, .ref si, .ref lo, .ref lh, .ref lk, .ref sp, .ref st, .ref pa, .ref br, .ref sg, .int 0, .int 0, .int 0, .int 0, .int 0, .int 0, .long 0, .long 0, .long 0, .long 0, .int 0])), (lo, .inr (3, [.int 0, .ref (z 0), .int 0]))]) (w1 := []) (t1 := []) hP hD hK [0, 1, 2, 3, 6] [4, 5] rfl rfl (by decide) (by decide) hk1 hFc ht hvm hB
  generalize H1 = H at hP hS ⊢
  have hP : va_P (dC, dI) vwCl [(mo, .inr (19, [.int 0, .int 0, .int 0, .int 0, .int 0, .int 0, .int 0, .ref ti, .ref si, .ref lo, .ref lh, .ref lk, .ref sp, .ref st, .ref pa, .ref br, .ref sg, .int 0, .int 0, .int 0, .int 0, .int 0, .int 0, .long 0, .long 0, .long 0, .long 0, .int 0])), (lo, .inr (3, [.int 0, .ref (z 0), .int 0]))] H := hP
  have hD : va_D A [(mo, .inr (19, [.int 0, .int 0, .int 0, .int 0, .int 0, .int 0, .int 0, .ref ti, .ref si, .ref lo, .ref lh, .ref lk, .ref sp, .ref st, .ref pa, .ref br, .ref sg, .int 0, .int 0, .int 0, .int 0, .int 0, .int 0, .long 0, .long 0, .long 0, .long 0, .int 0])), (lo, .inr (3, [.int 0, .ref (z 0), .int 0]))] := hD
  have hK : va_K (dC, dI) vwCl [(co, .long)] s := hK
  obtain rfl : 1 = r1 := hw
  refine lv_istore (lv' := [(6, .int 1), (0, .ref b), (1, .ref x), (2, .ref mo), (3, .ref ou), (4, .ref od_), (5, .int 0)]) hx hb dL_law_496 hl (by decide) rfl (fun ls hl => ?_)
  refine lv_aload_n hx hb dL_law_498 rfl (lv_at hl 3 rfl) ?_
  refine lv_aload_n hx hb dL_law_499 rfl (lv_at hl 1 rfl) ?_
  refine lv_iload hx hb dL_law_500 (lv_at hl 6 rfl) ?_
  refine lv_iconst (v := 1) hx hb dL_law_502 (by decide) ?_
  refine lv_iadd hx hb dL_law_503 ?_
  refine kc_i (y := 1) (by decide +kernel) ?_
  refine va_sld hx hb hX hbl hbA hS (pk_in 1 4 (by decide) rfl) dL_law_504 ?_
  refine kc_i (y := p0) (hs1 : xs 1 = p0) ?_
  have hPc := hP.sub (ws' := [(mo, .inr (19, [.int 0, .int 0, .int 0, .int 0, .int 0, .int 0, .int 0, .ref ti, .ref si, .ref lo, .ref lh, .ref lk, .ref sp, .ref st, .ref pa, .ref br, .ref sg, .int 0, .int 0, .int 0, .int 0, .int 0, .int 0, .long 0, .long 0, .long 0, .long 0, .int 0])), (lo, .inr (3, [.int 0, .ref (z 0), .int 0]))]) [0, 1] rfl
  have hDc := hD.sub (ws' := [(mo, .inr (19, [.int 0, .int 0, .int 0, .int 0, .int 0, .int 0, .int 0, .ref ti, .ref si, .ref lo, .ref lh, .ref lk, .ref sp, .ref st, .ref pa, .ref br, .ref sg, .int 0, .int 0, .int 0, .int 0, .int 0, .int 0, .long 0, .long 0, .long 0, .long 0, .int 0])), (lo, .inr (3, [.int 0, .ref (z 0), .int 0]))]) [0, 1] (by decide) rfl
  have hKc := hK.sub (tys' := []) [] rfl
  have hFc := va_free (wc := [(mo, .inr (19, [.int 0, .int 0, .int 0, .int 0, .int 0, .int 0, .int 0, .ref ti, .ref si, .ref lo, .ref lh, .ref lk, .ref sp, .ref st, .ref pa, .ref br, .ref sg, .int 0, .int 0, .int 0, .int 0, .int 0, .int 0, .long 0, .long 0, .long 0, .long 0, .int 0])), (lo, .inr (3, [.int 0, .ref (z 0), .int 0]))]) hD hS hA [0, 1] rfl
  refine va_calli (va_runV (As := [.int p0]) (rest := []) ⟨hx, hb, hml, hown, hts⟩ (k_m_belay l dC dI z zK zV p0 mo ti si lo lh lk sp st pa br sg 0 H.size) (cwV 1 hts hL_X15_belay_116 rfl rfl rfl (by decide +kernel) ⟨Nat.le_of_ble_eq_true rfl, Nat.le_of_ble_eq_true rfl⟩) ⟨kP_blind, va_recv hKc hPc (ci := 19) (q0 := 0) rfl rfl, kP_go hPc hKc hDc hFc hM hS⟩ rfl rfl hl.1 rfl (lv_room (Nat.le_of_ble_eq_true rfl)) dL_law_505 ⟨Nat.le_of_ble_eq_true rfl, Nat.le_of_ble_eq_true rfl⟩) hS (fun q _ h => hFc q h) hFc (fun r2 u t H1 locs ht hvm hw hB hz1 hk1 hS => ?_)
  obtain ⟨hP, hD, hK⟩ := kJ (wr := []) (w1 := [(mo, .inr (19, [.int 0, .int 0, .int 0, .int 0, .int 0, .int 0, .int 0, .ref ti, .ref si, .ref lo, .ref lh, .ref lk, .ref sp, .ref st, .ref pa, .ref br, .ref sg, .int 0, .int 0, .int 0, .int 0, .int 0, .int 0, .long 0, .long 0, .long 0, .long 0, .int 1]))]) (t1 := []) hP hD hK [0, 1] [] rfl rfl (by decide) (by decide) hk1 hFc ht hvm hB
  generalize H1 = H at hP hS ⊢
  have hP : va_P (dC, dI) vwCl [(mo, .inr (19, [.int 0, .int 0, .int 0, .int 0, .int 0, .int 0, .int 0, .ref ti, .ref si, .ref lo, .ref lh, .ref lk, .ref sp, .ref st, .ref pa, .ref br, .ref sg, .int 0, .int 0, .int 0, .int 0, .int 0, .int 0, .long 0, .long 0, .long 0, .long 0, .int 1]))] H := hP
  have hD : va_D A [(mo, .inr (19, [.int 0, .int 0, .int 0, .int 0, .int 0, .int 0, .int 0, .ref ti, .ref si, .ref lo, .ref lh, .ref lk, .ref sp, .ref st, .ref pa, .ref br, .ref sg, .int 0, .int 0, .int 0, .int 0, .int 0, .int 0, .long 0, .long 0, .long 0, .long 0, .int 1]))] := hD
  have hK : va_K (dC, dI) vwCl [(co, .long)] s := hK
  obtain rfl : (-1) = r2 := hw
  refine lv_istore (lv' := [(7, .int (-1)), (6, .int 1), (0, .ref b), (1, .ref x), (2, .ref mo), (3, .ref ou), (4, .ref od_), (5, .int 0)]) hx hb dL_law_508 hl (by decide) rfl (fun ls hl => ?_)
  refine lv_aload_n hx hb dL_law_510 rfl (lv_at hl 4 rfl) ?_
  have hPc := hP.sub (ws' := [(mo, .inr (19, [.int 0, .int 0, .int 0, .int 0, .int 0, .int 0, .int 0, .ref ti, .ref si, .ref lo, .ref lh, .ref lk, .ref sp, .ref st, .ref pa, .ref br, .ref sg, .int 0, .int 0, .int 0, .int 0, .int 0, .int 0, .long 0, .long 0, .long 0, .long 0, .int 1]))]) [0] rfl
  have hDc := hD.sub (ws' := [(mo, .inr (19, [.int 0, .int 0, .int 0, .int 0, .int 0, .int 0, .int 0, .ref ti, .ref si, .ref lo, .ref lh, .ref lk, .ref sp, .ref st, .ref pa, .ref br, .ref sg, .int 0, .int 0, .int 0, .int 0, .int 0, .int 0, .long 0, .long 0, .long 0, .long 0, .int 1]))]) [0] (by decide) rfl
  have hKc := hK.sub (tys' := []) [] rfl
  have hFc := va_free (wc := [(mo, .inr (19, [.int 0, .int 0, .int 0, .int 0, .int 0, .int 0, .int 0, .ref ti, .ref si, .ref lo, .ref lh, .ref lk, .ref sp, .ref st, .ref pa, .ref br, .ref sg, .int 0, .int 0, .int 0, .int 0, .int 0, .int 0, .long 0, .long 0, .long 0, .long 0, .int 1]))]) hD hS hA [0] rfl
  refine va_calli (va_runV (As := []) (rest := []) ⟨hx, hb, hml, hown, hts⟩ (k_m_thrown l dC dI z zK zV mo ti si lo lh lk sp st pa br sg 0 0 0 0 0 0 0 0 0 0 0 0 0 0 0 0 0 1 H.size) (cwV 0 hts hL_X15_thrown_100 rfl rfl rfl (by decide +kernel) ⟨Nat.le_of_ble_eq_true rfl, Nat.le_of_ble_eq_true rfl⟩) ⟨kP_blind, va_recv hKc hPc (ci := 19) (q0 := 0) rfl rfl, kP_go hPc hKc hDc hFc hM hS⟩ rfl rfl hl.1 rfl (lv_room (Nat.le_of_ble_eq_true rfl)) dL_law_511 ⟨Nat.le_of_ble_eq_true rfl, Nat.le_of_ble_eq_true rfl⟩) hS (fun q _ h => hFc q h) hFc (fun r3 u t H1 locs ht hvm hw hB hz1 hk1 hS => ?_)
  obtain ⟨hP, hD, hK⟩ := kJ (wr := []) (w1 := [(mo, .inr (19, [.int 0, .int 0, .int 0, .int 0, .int 0, .int 0, .int 0, .ref ti, .ref si, .ref lo, .ref lh, .ref lk, .ref sp, .ref st, .ref pa, .ref br, .ref sg, .int 0, .int 0, .int 0, .int 0, .int 0, .int 0, .long 0, .long 0, .long 0, .long 0, .int 1]))]) (t1 := []) hP hD hK [0] [] rfl rfl (by decide) (by decide) hk1 hFc ht hvm hB
  generalize H1 = H at hP hS ⊢
  have hP : va_P (dC, dI) vwCl [(mo, .inr (19, [.int 0, .int 0, .int 0, .int 0, .int 0, .int 0, .int 0, .ref ti, .ref si, .ref lo, .ref lh, .ref lk, .ref sp, .ref st, .ref pa, .ref br, .ref sg, .int 0, .int 0, .int 0, .int 0, .int 0, .int 0, .long 0, .long 0, .long 0, .long 0, .int 1]))] H := hP
  have hD : va_D A [(mo, .inr (19, [.int 0, .int 0, .int 0, .int 0, .int 0, .int 0, .int 0, .ref ti, .ref si, .ref lo, .ref lh, .ref lk, .ref sp, .ref st, .ref pa, .ref br, .ref sg, .int 0, .int 0, .int 0, .int 0, .int 0, .int 0, .long 0, .long 0, .long 0, .long 0, .int 1]))] := hD
  have hK : va_K (dC, dI) vwCl [(co, .long)] s := hK
  obtain rfl : 1 = r3 := hw
  refine lv_iload hx hb dL_law_514 (lv_at hl 1 rfl) ?_
  refine lv_icmp_eq (tgt := 521) hx hb dL_law_516 (by decide) (fun _ => ?_) (fun c_ => absurd (by decide +kernel) c_)
  refine lv_iload hx hb dL_law_521 (lv_at hl 1 rfl) ?_
  refine lv_if_ne (tgt := 538) hx hb dL_law_523 (by decide) (fun _ => ?_) (fun c_ => absurd c_ (by decide +kernel))
  refine lv_goto (tgt := 1684) hx hb dL_law_538 (by decide) ?_
  exact la_tail (dC := dC) (dI := dI) hst C0 hM hA hAl H locs hS ls (lv_sub hl [2, 7] rfl) (by omega) (by omega)
set_option maxHeartbeats 8000000 in
set_option maxRecDepth 100000 in
theorem la_state {p : Program} {l : Launch} {e : Env} {s : State} {m : MethodId} {below : List Frame} {meth : Method} {c : Code} {dC : Nat → ClassId} {dI : Nat → Nat → Nat} {z zK zV : Nat → Nat} {b : Nat} {xs : Nat → Int32} {A : Nat → Prop} (hst : l.stackTraces = false) (C0 : lw_At p s m meth c b 4 xs) (hM : am z zK zV A s s.heap) (hA : ∀ q : Nat, s.heap.size ≤ q → A q) (hAl : ∀ q : Nat, A q → s.heap.size ≤ q) (sh : Nat) (rg : Nat) (dk : Nat) (w0 : Nat) (w1 : Nat) (ol : Nat) (hd : Nat) (lg : Nat) (pl : Nat) (pr : Nat) (x : Nat) (tl : Nat) (tw : Nat) (p0 : Int32) (mo : Nat) (ti : Nat) (si : Nat) (lo : Nat) (lh : Nat) (lk : Nat) (sp : Nat) (st : Nat) (pa : Nat) (br : Nat) (sg : Nat) (ou : Nat) (co : ClassId) (of_ : Nat → Int64) (od_ : Nat)  (hs1 : xs 1 = p0) (H : Heap) (locs : List Loc) (hK : va_K (dC, dI) vwCl [(co, .long)] s) (hP : va_P (dC, dI) vwCl [(x, .inr (15, [.ref sh, .ref tl, .ref tw, .int 0])), (sh, .inr (13, [.ref rg, .ref dk, .ref hd, .ref lg, .ref pl, .ref pr, .int 0, .int 0, .int 0, .int 0, .int 0, .int 0, .int 0, .int 0, .int 0, .int 0, .int 0])), (dk, .inr (4, [.ref w0, .ref w1, .ref ol, .int 0, .int 0, .int 0, .int 0])), (ol, .inr (3, [.int 0, .ref (z 0), .int 0])), (mo, .inr (19, [.int 0, .int 0, .int 0, .int 0, .int 0, .int 0, .int 0, .ref ti, .ref si, .ref lo, .ref lh, .ref lk, .ref sp, .ref st, .ref pa, .ref br, .ref sg, .int 0, .int 0, .int 0, .int 0, .int 0, .int 0, .long 0, .long 0, .long 0, .long 0, .int 0])), (lo, .inr (3, [.int 0, .ref (z 0), .int 0])), (ou, .inl (co, 1, .inr (.inl of_)))] H) (hD : va_D A [(x, .inr (15, [.ref sh, .ref tl, .ref tw, .int 0])), (sh, .inr (13, [.ref rg, .ref dk, .ref hd, .ref lg, .ref pl, .ref pr, .int 0, .int 0, .int 0, .int 0, .int 0, .int 0, .int 0, .int 0, .int 0, .int 0, .int 0])), (dk, .inr (4, [.ref w0, .ref w1, .ref ol, .int 0, .int 0, .int 0, .int 0])), (ol, .inr (3, [.int 0, .ref (z 0), .int 0])), (mo, .inr (19, [.int 0, .int 0, .int 0, .int 0, .int 0, .int 0, .int 0, .ref ti, .ref si, .ref lo, .ref lh, .ref lk, .ref sp, .ref st, .ref pa, .ref br, .ref sg, .int 0, .int 0, .int 0, .int 0, .int 0, .int 0, .long 0, .long 0, .long 0, .long 0, .int 0])), (lo, .inr (3, [.int 0, .ref (z 0), .int 0])), (ou, .inl (co, 1, .inr (.inl of_)))]) (hS : va_S A s.heap H locs) (ls : Array Slot) (hl : lv_has ls 10 [(0, .ref b), (1, .ref x), (2, .ref mo), (3, .ref ou), (4, .ref od_), (5, .int 0)]) : W p l e room_1 s m #[Value.ref b] below meth c H locs 100 1400 (lw_Z below #[Value.ref b] s) (F0 m 541 ls []) := by
  obtain ⟨hx, hb, hr, hml, hown, hts, hX, hbl, hlocks, hgv⟩ := id C0
  have hbA : ¬ A b := fun h => absurd (hAl b h) (Nat.not_le.mpr hbl)
  refine lv_aload_n hx hb dL_law_541 rfl (lv_at hl 1 rfl) ?_
  refine lv_aload_n hx hb dL_law_542 rfl (lv_at hl 0 rfl) ?_
  refine lv_iload hx hb dL_law_543 (lv_at hl 5 rfl) ?_
  refine lv_iconst (v := 1) hx hb dL_law_545 (by decide) ?_
  refine lv_iadd hx hb dL_law_546 ?_
  refine kc_i (y := 1) (by decide +kernel) ?_
  refine va_sld hx hb hX hbl hbA hS (pk_in 1 4 (by decide) rfl) dL_law_547 ?_
  refine kc_i (y := p0) (hs1 : xs 1 = p0) ?_
  refine lv_aload_n hx hb dL_law_548 rfl (lv_at hl 3 rfl) ?_
  have hPc := hP.sub (ws' := [(x, .inr (15, [.ref sh, .ref tl, .ref tw, .int 0])), (sh, .inr (13, [.ref rg, .ref dk, .ref hd, .ref lg, .ref pl, .ref pr, .int 0, .int 0, .int 0, .int 0, .int 0, .int 0, .int 0, .int 0, .int 0, .int 0, .int 0])), (dk, .inr (4, [.ref w0, .ref w1, .ref ol, .int 0, .int 0, .int 0, .int 0])), (ol, .inr (3, [.int 0, .ref (z 0), .int 0])), (ou, .inl (co, 1, .inr (.inl of_)))]) [0, 1, 2, 3, 6] rfl
  have hDc := hD.sub (ws' := [(x, .inr (15, [.ref sh, .ref tl, .ref tw, .int 0])), (sh, .inr (13, [.ref rg, .ref dk, .ref hd, .ref lg, .ref pl, .ref pr, .int 0, .int 0, .int 0, .int 0, .int 0, .int 0, .int 0, .int 0, .int 0, .int 0, .int 0])), (dk, .inr (4, [.ref w0, .ref w1, .ref ol, .int 0, .int 0, .int 0, .int 0])), (ol, .inr (3, [.int 0, .ref (z 0), .int 0])), (ou, .inl (co, 1, .inr (.inl of_)))]) [0, 1, 2, 3, 6] (by decide) rfl
  have hKc := hK.sub (tys' := [(co, .long)]) [0] rfl
  have hFc := va_free (wc := [(x, .inr (15, [.ref sh, .ref tl, .ref tw, .int 0])), (sh, .inr (13, [.ref rg, .ref dk, .ref hd, .ref lg, .ref pl, .ref pr, .int 0, .int 0, .int 0, .int 0, .int 0, .int 0, .int 0, .int 0, .int 0, .int 0, .int 0])), (dk, .inr (4, [.ref w0, .ref w1, .ref ol, .int 0, .int 0, .int 0, .int 0])), (ol, .inr (3, [.int 0, .ref (z 0), .int 0])), (ou, .inl (co, 1, .inr (.inl of_)))]) hD hS hA [0, 1, 2, 3, 6] rfl
  refine va_calli (vx_runSW (As := [.ref x, .int p0, .ref ou]) (rest := []) ⟨hx, hb, hml, hown, hts⟩ (k_l_state l dC dI z zK zV sh rg dk w0 w1 ol hd lg pl pr x tl tw p0 ou co of_ H.size hst) (vx_cwSW 3 hts hL_L_state_117 rfl rfl rfl (by decide +kernel) ⟨Nat.le_of_ble_eq_true rfl, Nat.le_of_ble_eq_true rfl⟩) ⟨kP_blind, kP_go hPc hKc hDc hFc hM hS⟩ rfl rfl hl.1 rfl (lv_room (Nat.le_of_ble_eq_true rfl)) dL_law_549 ⟨Nat.le_of_ble_eq_true rfl, Nat.le_of_ble_eq_true rfl⟩) hS (fun q _ h => hFc q h) hFc (fun r1 u t H1 locs ht hvm hw hB hz1 hk1 hS => ?_)
  obtain ⟨hP, hD, hK⟩ := kJ (wr := [(mo, .inr (19, [.int 0, .int 0, .int 0, .int 0, .int 0, .int 0, .int 0, .ref ti, .ref si, .ref lo, .ref lh, .ref lk, .ref sp, .ref st, .ref pa, .ref br, .ref sg, .int 0, .int 0, .int 0, .int 0, .int 0, .int 0, .long 0, .long 0, .long 0, .long 0, .int 0])), (lo, .inr (3, [.int 0, .ref (z 0), .int 0]))]) (w1 := []) (t1 := []) hP hD hK [0, 1, 2, 3, 6] [4, 5] rfl rfl (by decide) (by decide) hk1 hFc ht hvm hB
  generalize H1 = H at hP hS ⊢
  have hP : va_P (dC, dI) vwCl [(mo, .inr (19, [.int 0, .int 0, .int 0, .int 0, .int 0, .int 0, .int 0, .ref ti, .ref si, .ref lo, .ref lh, .ref lk, .ref sp, .ref st, .ref pa, .ref br, .ref sg, .int 0, .int 0, .int 0, .int 0, .int 0, .int 0, .long 0, .long 0, .long 0, .long 0, .int 0])), (lo, .inr (3, [.int 0, .ref (z 0), .int 0]))] H := hP
  have hD : va_D A [(mo, .inr (19, [.int 0, .int 0, .int 0, .int 0, .int 0, .int 0, .int 0, .ref ti, .ref si, .ref lo, .ref lh, .ref lk, .ref sp, .ref st, .ref pa, .ref br, .ref sg, .int 0, .int 0, .int 0, .int 0, .int 0, .int 0, .long 0, .long 0, .long 0, .long 0, .int 0])), (lo, .inr (3, [.int 0, .ref (z 0), .int 0]))] := hD
  have hK : va_K (dC, dI) vwCl [(co, .long)] s := hK
  obtain rfl : 1 = r1 := hw
  refine lv_istore (lv' := [(6, .int 1), (0, .ref b), (1, .ref x), (2, .ref mo), (3, .ref ou), (4, .ref od_), (5, .int 0)]) hx hb dL_law_552 hl (by decide) rfl (fun ls hl => ?_)
  refine lv_aload_n hx hb dL_law_554 rfl (lv_at hl 3 rfl) ?_
  refine lv_aload_n hx hb dL_law_555 rfl (lv_at hl 1 rfl) ?_
  refine lv_iload hx hb dL_law_556 (lv_at hl 6 rfl) ?_
  refine lv_iconst (v := 1) hx hb dL_law_558 (by decide) ?_
  refine lv_iadd hx hb dL_law_559 ?_
  refine kc_i (y := 1) (by decide +kernel) ?_
  refine va_sld hx hb hX hbl hbA hS (pk_in 1 4 (by decide) rfl) dL_law_560 ?_
  refine kc_i (y := p0) (hs1 : xs 1 = p0) ?_
  have hPc := hP.sub (ws' := [(mo, .inr (19, [.int 0, .int 0, .int 0, .int 0, .int 0, .int 0, .int 0, .ref ti, .ref si, .ref lo, .ref lh, .ref lk, .ref sp, .ref st, .ref pa, .ref br, .ref sg, .int 0, .int 0, .int 0, .int 0, .int 0, .int 0, .long 0, .long 0, .long 0, .long 0, .int 0])), (lo, .inr (3, [.int 0, .ref (z 0), .int 0]))]) [0, 1] rfl
  have hDc := hD.sub (ws' := [(mo, .inr (19, [.int 0, .int 0, .int 0, .int 0, .int 0, .int 0, .int 0, .ref ti, .ref si, .ref lo, .ref lh, .ref lk, .ref sp, .ref st, .ref pa, .ref br, .ref sg, .int 0, .int 0, .int 0, .int 0, .int 0, .int 0, .long 0, .long 0, .long 0, .long 0, .int 0])), (lo, .inr (3, [.int 0, .ref (z 0), .int 0]))]) [0, 1] (by decide) rfl
  have hKc := hK.sub (tys' := []) [] rfl
  have hFc := va_free (wc := [(mo, .inr (19, [.int 0, .int 0, .int 0, .int 0, .int 0, .int 0, .int 0, .ref ti, .ref si, .ref lo, .ref lh, .ref lk, .ref sp, .ref st, .ref pa, .ref br, .ref sg, .int 0, .int 0, .int 0, .int 0, .int 0, .int 0, .long 0, .long 0, .long 0, .long 0, .int 0])), (lo, .inr (3, [.int 0, .ref (z 0), .int 0]))]) hD hS hA [0, 1] rfl
  refine va_calli (va_runV (As := [.int p0]) (rest := []) ⟨hx, hb, hml, hown, hts⟩ (k_m_state l dC dI z zK zV p0 mo ti si lo lh lk sp st pa br sg 0 H.size) (cwV 1 hts hL_X15_state_119 rfl rfl rfl (by decide +kernel) ⟨Nat.le_of_ble_eq_true rfl, Nat.le_of_ble_eq_true rfl⟩) ⟨kP_blind, va_recv hKc hPc (ci := 19) (q0 := 0) rfl rfl, kP_go hPc hKc hDc hFc hM hS⟩ rfl rfl hl.1 rfl (lv_room (Nat.le_of_ble_eq_true rfl)) dL_law_561 ⟨Nat.le_of_ble_eq_true rfl, Nat.le_of_ble_eq_true rfl⟩) hS (fun q _ h => hFc q h) hFc (fun r2 u t H1 locs ht hvm hw hB hz1 hk1 hS => ?_)
  obtain ⟨hP, hD, hK⟩ := kJ (wr := []) (w1 := [(mo, .inr (19, [.int 0, .int 0, .int 0, .int 0, .int 0, .int 0, .int 0, .ref ti, .ref si, .ref lo, .ref lh, .ref lk, .ref sp, .ref st, .ref pa, .ref br, .ref sg, .int 0, .int 0, .int 0, .int 0, .int 0, .int 0, .long 0, .long 0, .long 0, .long 0, .int 1]))]) (t1 := []) hP hD hK [0, 1] [] rfl rfl (by decide) (by decide) hk1 hFc ht hvm hB
  generalize H1 = H at hP hS ⊢
  have hP : va_P (dC, dI) vwCl [(mo, .inr (19, [.int 0, .int 0, .int 0, .int 0, .int 0, .int 0, .int 0, .ref ti, .ref si, .ref lo, .ref lh, .ref lk, .ref sp, .ref st, .ref pa, .ref br, .ref sg, .int 0, .int 0, .int 0, .int 0, .int 0, .int 0, .long 0, .long 0, .long 0, .long 0, .int 1]))] H := hP
  have hD : va_D A [(mo, .inr (19, [.int 0, .int 0, .int 0, .int 0, .int 0, .int 0, .int 0, .ref ti, .ref si, .ref lo, .ref lh, .ref lk, .ref sp, .ref st, .ref pa, .ref br, .ref sg, .int 0, .int 0, .int 0, .int 0, .int 0, .int 0, .long 0, .long 0, .long 0, .long 0, .int 1]))] := hD
  have hK : va_K (dC, dI) vwCl [(co, .long)] s := hK
  obtain rfl : 32 = r2 := hw
  refine lv_istore (lv' := [(7, .int 32), (6, .int 1), (0, .ref b), (1, .ref x), (2, .ref mo), (3, .ref ou), (4, .ref od_), (5, .int 0)]) hx hb dL_law_564 hl (by decide) rfl (fun ls hl => ?_)
  refine lv_aload_n hx hb dL_law_566 rfl (lv_at hl 4 rfl) ?_
  have hPc := hP.sub (ws' := [(mo, .inr (19, [.int 0, .int 0, .int 0, .int 0, .int 0, .int 0, .int 0, .ref ti, .ref si, .ref lo, .ref lh, .ref lk, .ref sp, .ref st, .ref pa, .ref br, .ref sg, .int 0, .int 0, .int 0, .int 0, .int 0, .int 0, .long 0, .long 0, .long 0, .long 0, .int 1]))]) [0] rfl
  have hDc := hD.sub (ws' := [(mo, .inr (19, [.int 0, .int 0, .int 0, .int 0, .int 0, .int 0, .int 0, .ref ti, .ref si, .ref lo, .ref lh, .ref lk, .ref sp, .ref st, .ref pa, .ref br, .ref sg, .int 0, .int 0, .int 0, .int 0, .int 0, .int 0, .long 0, .long 0, .long 0, .long 0, .int 1]))]) [0] (by decide) rfl
  have hKc := hK.sub (tys' := []) [] rfl
  have hFc := va_free (wc := [(mo, .inr (19, [.int 0, .int 0, .int 0, .int 0, .int 0, .int 0, .int 0, .ref ti, .ref si, .ref lo, .ref lh, .ref lk, .ref sp, .ref st, .ref pa, .ref br, .ref sg, .int 0, .int 0, .int 0, .int 0, .int 0, .int 0, .long 0, .long 0, .long 0, .long 0, .int 1]))]) hD hS hA [0] rfl
  refine va_calli (va_runV (As := []) (rest := []) ⟨hx, hb, hml, hown, hts⟩ (k_m_thrown l dC dI z zK zV mo ti si lo lh lk sp st pa br sg 0 0 0 0 0 0 0 0 0 0 0 0 0 0 0 0 0 1 H.size) (cwV 0 hts hL_X15_thrown_100 rfl rfl rfl (by decide +kernel) ⟨Nat.le_of_ble_eq_true rfl, Nat.le_of_ble_eq_true rfl⟩) ⟨kP_blind, va_recv hKc hPc (ci := 19) (q0 := 0) rfl rfl, kP_go hPc hKc hDc hFc hM hS⟩ rfl rfl hl.1 rfl (lv_room (Nat.le_of_ble_eq_true rfl)) dL_law_567 ⟨Nat.le_of_ble_eq_true rfl, Nat.le_of_ble_eq_true rfl⟩) hS (fun q _ h => hFc q h) hFc (fun r3 u t H1 locs ht hvm hw hB hz1 hk1 hS => ?_)
  obtain ⟨hP, hD, hK⟩ := kJ (wr := []) (w1 := [(mo, .inr (19, [.int 0, .int 0, .int 0, .int 0, .int 0, .int 0, .int 0, .ref ti, .ref si, .ref lo, .ref lh, .ref lk, .ref sp, .ref st, .ref pa, .ref br, .ref sg, .int 0, .int 0, .int 0, .int 0, .int 0, .int 0, .long 0, .long 0, .long 0, .long 0, .int 1]))]) (t1 := []) hP hD hK [0] [] rfl rfl (by decide) (by decide) hk1 hFc ht hvm hB
  generalize H1 = H at hP hS ⊢
  have hP : va_P (dC, dI) vwCl [(mo, .inr (19, [.int 0, .int 0, .int 0, .int 0, .int 0, .int 0, .int 0, .ref ti, .ref si, .ref lo, .ref lh, .ref lk, .ref sp, .ref st, .ref pa, .ref br, .ref sg, .int 0, .int 0, .int 0, .int 0, .int 0, .int 0, .long 0, .long 0, .long 0, .long 0, .int 1]))] H := hP
  have hD : va_D A [(mo, .inr (19, [.int 0, .int 0, .int 0, .int 0, .int 0, .int 0, .int 0, .ref ti, .ref si, .ref lo, .ref lh, .ref lk, .ref sp, .ref st, .ref pa, .ref br, .ref sg, .int 0, .int 0, .int 0, .int 0, .int 0, .int 0, .long 0, .long 0, .long 0, .long 0, .int 1]))] := hD
  have hK : va_K (dC, dI) vwCl [(co, .long)] s := hK
  obtain rfl : 1 = r3 := hw
  refine lv_iload hx hb dL_law_570 (lv_at hl 1 rfl) ?_
  refine lv_icmp_eq (tgt := 577) hx hb dL_law_572 (by decide) (fun _ => ?_) (fun c_ => absurd (by decide +kernel) c_)
  refine lv_iload hx hb dL_law_577 (lv_at hl 1 rfl) ?_
  refine lv_if_ne (tgt := 594) hx hb dL_law_579 (by decide) (fun _ => ?_) (fun c_ => absurd c_ (by decide +kernel))
  refine lv_goto (tgt := 1684) hx hb dL_law_594 (by decide) ?_
  exact la_tail (dC := dC) (dI := dI) hst C0 hM hA hAl H locs hS ls (lv_sub hl [2, 7] rfl) (by omega) (by omega)
set_option maxHeartbeats 8000000 in
set_option maxRecDepth 100000 in
theorem la_left {p : Program} {l : Launch} {e : Env} {s : State} {m : MethodId} {below : List Frame} {meth : Method} {c : Code} {dC : Nat → ClassId} {dI : Nat → Nat → Nat} {z zK zV : Nat → Nat} {b : Nat} {xs : Nat → Int32} {A : Nat → Prop} (hst : l.stackTraces = false) (C0 : lw_At p s m meth c b 4 xs) (hM : am z zK zV A s s.heap) (hA : ∀ q : Nat, s.heap.size ≤ q → A q) (hAl : ∀ q : Nat, A q → s.heap.size ≤ q) (sh : Nat) (rg : Nat) (dk : Nat) (hd : Nat) (hu : Nat) (hy : Nat) (lg : Nat) (pl : Nat) (pr : Nat) (x : Nat) (tl : Nat) (tw : Nat) (p0 : Int32) (mo : Nat) (ti : Nat) (si : Nat) (lo : Nat) (lh : Nat) (lk : Nat) (sp : Nat) (st : Nat) (pa : Nat) (br : Nat) (sg : Nat) (ou : Nat) (co : ClassId) (of_ : Nat → Int64) (od_ : Nat)  (hs1 : xs 1 = p0) (H : Heap) (locs : List Loc) (hK : va_K (dC, dI) vwCl [(co, .long)] s) (hP : va_P (dC, dI) vwCl [(x, .inr (15, [.ref sh, .ref tl, .ref tw, .int 0])), (sh, .inr (13, [.ref rg, .ref dk, .ref hd, .ref lg, .ref pl, .ref pr, .int 0, .int 0, .int 0, .int 0, .int 0, .int 0, .int 0, .int 0, .int 0, .int 0, .int 0])), (hd, .inr (6, [.ref hu, .ref hy, .int 0])), (mo, .inr (19, [.int 0, .int 0, .int 0, .int 0, .int 0, .int 0, .int 0, .ref ti, .ref si, .ref lo, .ref lh, .ref lk, .ref sp, .ref st, .ref pa, .ref br, .ref sg, .int 0, .int 0, .int 0, .int 0, .int 0, .int 0, .long 0, .long 0, .long 0, .long 0, .int 0])), (lh, .inr (3, [.int 0, .ref (z 0), .int 0])), (ou, .inl (co, 1, .inr (.inl of_)))] H) (hD : va_D A [(x, .inr (15, [.ref sh, .ref tl, .ref tw, .int 0])), (sh, .inr (13, [.ref rg, .ref dk, .ref hd, .ref lg, .ref pl, .ref pr, .int 0, .int 0, .int 0, .int 0, .int 0, .int 0, .int 0, .int 0, .int 0, .int 0, .int 0])), (hd, .inr (6, [.ref hu, .ref hy, .int 0])), (mo, .inr (19, [.int 0, .int 0, .int 0, .int 0, .int 0, .int 0, .int 0, .ref ti, .ref si, .ref lo, .ref lh, .ref lk, .ref sp, .ref st, .ref pa, .ref br, .ref sg, .int 0, .int 0, .int 0, .int 0, .int 0, .int 0, .long 0, .long 0, .long 0, .long 0, .int 0])), (lh, .inr (3, [.int 0, .ref (z 0), .int 0])), (ou, .inl (co, 1, .inr (.inl of_)))]) (hS : va_S A s.heap H locs) (ls : Array Slot) (hl : lv_has ls 10 [(0, .ref b), (1, .ref x), (2, .ref mo), (3, .ref ou), (4, .ref od_), (5, .int 0)]) : W p l e room_1 s m #[Value.ref b] below meth c H locs 100 1400 (lw_Z below #[Value.ref b] s) (F0 m 860 ls []) := by
  obtain ⟨hx, hb, hr, hml, hown, hts, hX, hbl, hlocks, hgv⟩ := id C0
  have hbA : ¬ A b := fun h => absurd (hAl b h) (Nat.not_le.mpr hbl)
  refine lv_aload_n hx hb dL_law_860 rfl (lv_at hl 1 rfl) ?_
  refine lv_aload_n hx hb dL_law_861 rfl (lv_at hl 0 rfl) ?_
  refine lv_iload hx hb dL_law_862 (lv_at hl 5 rfl) ?_
  refine lv_iconst (v := 1) hx hb dL_law_864 (by decide) ?_
  refine lv_iadd hx hb dL_law_865 ?_
  refine kc_i (y := 1) (by decide +kernel) ?_
  refine va_sld hx hb hX hbl hbA hS (pk_in 1 4 (by decide) rfl) dL_law_866 ?_
  refine kc_i (y := p0) (hs1 : xs 1 = p0) ?_
  refine lv_aload_n hx hb dL_law_867 rfl (lv_at hl 3 rfl) ?_
  have hPc := hP.sub (ws' := [(x, .inr (15, [.ref sh, .ref tl, .ref tw, .int 0])), (sh, .inr (13, [.ref rg, .ref dk, .ref hd, .ref lg, .ref pl, .ref pr, .int 0, .int 0, .int 0, .int 0, .int 0, .int 0, .int 0, .int 0, .int 0, .int 0, .int 0])), (hd, .inr (6, [.ref hu, .ref hy, .int 0])), (ou, .inl (co, 1, .inr (.inl of_)))]) [0, 1, 2, 5] rfl
  have hDc := hD.sub (ws' := [(x, .inr (15, [.ref sh, .ref tl, .ref tw, .int 0])), (sh, .inr (13, [.ref rg, .ref dk, .ref hd, .ref lg, .ref pl, .ref pr, .int 0, .int 0, .int 0, .int 0, .int 0, .int 0, .int 0, .int 0, .int 0, .int 0, .int 0])), (hd, .inr (6, [.ref hu, .ref hy, .int 0])), (ou, .inl (co, 1, .inr (.inl of_)))]) [0, 1, 2, 5] (by decide) rfl
  have hKc := hK.sub (tys' := [(co, .long)]) [0] rfl
  have hFc := va_free (wc := [(x, .inr (15, [.ref sh, .ref tl, .ref tw, .int 0])), (sh, .inr (13, [.ref rg, .ref dk, .ref hd, .ref lg, .ref pl, .ref pr, .int 0, .int 0, .int 0, .int 0, .int 0, .int 0, .int 0, .int 0, .int 0, .int 0, .int 0])), (hd, .inr (6, [.ref hu, .ref hy, .int 0])), (ou, .inl (co, 1, .inr (.inl of_)))]) hD hS hA [0, 1, 2, 5] rfl
  refine va_calli (vx_runSW (As := [.ref x, .int p0, .ref ou]) (rest := []) ⟨hx, hb, hml, hown, hts⟩ (k_l_left l dC dI z zK zV sh rg dk hd hu hy lg pl pr x tl tw p0 ou co of_ H.size hst) (vx_cwSW 3 hts hL_L_left_143 rfl rfl rfl (by decide +kernel) ⟨Nat.le_of_ble_eq_true rfl, Nat.le_of_ble_eq_true rfl⟩) ⟨kP_blind, kP_go hPc hKc hDc hFc hM hS⟩ rfl rfl hl.1 rfl (lv_room (Nat.le_of_ble_eq_true rfl)) dL_law_868 ⟨Nat.le_of_ble_eq_true rfl, Nat.le_of_ble_eq_true rfl⟩) hS (fun q _ h => hFc q h) hFc (fun r1 u t H1 locs ht hvm hw hB hz1 hk1 hS => ?_)
  obtain ⟨hP, hD, hK⟩ := kJ (wr := [(mo, .inr (19, [.int 0, .int 0, .int 0, .int 0, .int 0, .int 0, .int 0, .ref ti, .ref si, .ref lo, .ref lh, .ref lk, .ref sp, .ref st, .ref pa, .ref br, .ref sg, .int 0, .int 0, .int 0, .int 0, .int 0, .int 0, .long 0, .long 0, .long 0, .long 0, .int 0])), (lh, .inr (3, [.int 0, .ref (z 0), .int 0]))]) (w1 := []) (t1 := []) hP hD hK [0, 1, 2, 5] [3, 4] rfl rfl (by decide) (by decide) hk1 hFc ht hvm hB
  generalize H1 = H at hP hS ⊢
  have hP : va_P (dC, dI) vwCl [(mo, .inr (19, [.int 0, .int 0, .int 0, .int 0, .int 0, .int 0, .int 0, .ref ti, .ref si, .ref lo, .ref lh, .ref lk, .ref sp, .ref st, .ref pa, .ref br, .ref sg, .int 0, .int 0, .int 0, .int 0, .int 0, .int 0, .long 0, .long 0, .long 0, .long 0, .int 0])), (lh, .inr (3, [.int 0, .ref (z 0), .int 0]))] H := hP
  have hD : va_D A [(mo, .inr (19, [.int 0, .int 0, .int 0, .int 0, .int 0, .int 0, .int 0, .ref ti, .ref si, .ref lo, .ref lh, .ref lk, .ref sp, .ref st, .ref pa, .ref br, .ref sg, .int 0, .int 0, .int 0, .int 0, .int 0, .int 0, .long 0, .long 0, .long 0, .long 0, .int 0])), (lh, .inr (3, [.int 0, .ref (z 0), .int 0]))] := hD
  have hK : va_K (dC, dI) vwCl [(co, .long)] s := hK
  obtain rfl : 1 = r1 := hw
  refine lv_istore (lv' := [(6, .int 1), (0, .ref b), (1, .ref x), (2, .ref mo), (3, .ref ou), (4, .ref od_), (5, .int 0)]) hx hb dL_law_871 hl (by decide) rfl (fun ls hl => ?_)
  refine lv_aload_n hx hb dL_law_873 rfl (lv_at hl 3 rfl) ?_
  refine lv_aload_n hx hb dL_law_874 rfl (lv_at hl 1 rfl) ?_
  refine lv_iload hx hb dL_law_875 (lv_at hl 6 rfl) ?_
  refine lv_iconst (v := 1) hx hb dL_law_877 (by decide) ?_
  refine lv_iadd hx hb dL_law_878 ?_
  refine kc_i (y := 1) (by decide +kernel) ?_
  refine va_sld hx hb hX hbl hbA hS (pk_in 1 4 (by decide) rfl) dL_law_879 ?_
  refine kc_i (y := p0) (hs1 : xs 1 = p0) ?_
  have hPc := hP.sub (ws' := [(mo, .inr (19, [.int 0, .int 0, .int 0, .int 0, .int 0, .int 0, .int 0, .ref ti, .ref si, .ref lo, .ref lh, .ref lk, .ref sp, .ref st, .ref pa, .ref br, .ref sg, .int 0, .int 0, .int 0, .int 0, .int 0, .int 0, .long 0, .long 0, .long 0, .long 0, .int 0])), (lh, .inr (3, [.int 0, .ref (z 0), .int 0]))]) [0, 1] rfl
  have hDc := hD.sub (ws' := [(mo, .inr (19, [.int 0, .int 0, .int 0, .int 0, .int 0, .int 0, .int 0, .ref ti, .ref si, .ref lo, .ref lh, .ref lk, .ref sp, .ref st, .ref pa, .ref br, .ref sg, .int 0, .int 0, .int 0, .int 0, .int 0, .int 0, .long 0, .long 0, .long 0, .long 0, .int 0])), (lh, .inr (3, [.int 0, .ref (z 0), .int 0]))]) [0, 1] (by decide) rfl
  have hKc := hK.sub (tys' := []) [] rfl
  have hFc := va_free (wc := [(mo, .inr (19, [.int 0, .int 0, .int 0, .int 0, .int 0, .int 0, .int 0, .ref ti, .ref si, .ref lo, .ref lh, .ref lk, .ref sp, .ref st, .ref pa, .ref br, .ref sg, .int 0, .int 0, .int 0, .int 0, .int 0, .int 0, .long 0, .long 0, .long 0, .long 0, .int 0])), (lh, .inr (3, [.int 0, .ref (z 0), .int 0]))]) hD hS hA [0, 1] rfl
  refine va_calli (va_runV (As := [.int p0]) (rest := []) ⟨hx, hb, hml, hown, hts⟩ (k_m_left l dC dI z zK zV p0 mo ti si lo lh lk sp st pa br sg 0 H.size) (cwV 1 hts hL_X15_left_145 rfl rfl rfl (by decide +kernel) ⟨Nat.le_of_ble_eq_true rfl, Nat.le_of_ble_eq_true rfl⟩) ⟨kP_blind, va_recv hKc hPc (ci := 19) (q0 := 0) rfl rfl, kP_go hPc hKc hDc hFc hM hS⟩ rfl rfl hl.1 rfl (lv_room (Nat.le_of_ble_eq_true rfl)) dL_law_880 ⟨Nat.le_of_ble_eq_true rfl, Nat.le_of_ble_eq_true rfl⟩) hS (fun q _ h => hFc q h) hFc (fun r2 u t H1 locs ht hvm hw hB hz1 hk1 hS => ?_)
  obtain ⟨hP, hD, hK⟩ := kJ (wr := []) (w1 := [(mo, .inr (19, [.int 0, .int 0, .int 0, .int 0, .int 0, .int 0, .int 0, .ref ti, .ref si, .ref lo, .ref lh, .ref lk, .ref sp, .ref st, .ref pa, .ref br, .ref sg, .int 0, .int 0, .int 0, .int 0, .int 0, .int 0, .long 0, .long 0, .long 0, .long 0, .int 1]))]) (t1 := []) hP hD hK [0, 1] [] rfl rfl (by decide) (by decide) hk1 hFc ht hvm hB
  generalize H1 = H at hP hS ⊢
  have hP : va_P (dC, dI) vwCl [(mo, .inr (19, [.int 0, .int 0, .int 0, .int 0, .int 0, .int 0, .int 0, .ref ti, .ref si, .ref lo, .ref lh, .ref lk, .ref sp, .ref st, .ref pa, .ref br, .ref sg, .int 0, .int 0, .int 0, .int 0, .int 0, .int 0, .long 0, .long 0, .long 0, .long 0, .int 1]))] H := hP
  have hD : va_D A [(mo, .inr (19, [.int 0, .int 0, .int 0, .int 0, .int 0, .int 0, .int 0, .ref ti, .ref si, .ref lo, .ref lh, .ref lk, .ref sp, .ref st, .ref pa, .ref br, .ref sg, .int 0, .int 0, .int 0, .int 0, .int 0, .int 0, .long 0, .long 0, .long 0, .long 0, .int 1]))] := hD
  have hK : va_K (dC, dI) vwCl [(co, .long)] s := hK
  obtain rfl : (-1) = r2 := hw
  refine lv_istore (lv' := [(7, .int (-1)), (6, .int 1), (0, .ref b), (1, .ref x), (2, .ref mo), (3, .ref ou), (4, .ref od_), (5, .int 0)]) hx hb dL_law_883 hl (by decide) rfl (fun ls hl => ?_)
  refine lv_aload_n hx hb dL_law_885 rfl (lv_at hl 4 rfl) ?_
  have hPc := hP.sub (ws' := [(mo, .inr (19, [.int 0, .int 0, .int 0, .int 0, .int 0, .int 0, .int 0, .ref ti, .ref si, .ref lo, .ref lh, .ref lk, .ref sp, .ref st, .ref pa, .ref br, .ref sg, .int 0, .int 0, .int 0, .int 0, .int 0, .int 0, .long 0, .long 0, .long 0, .long 0, .int 1]))]) [0] rfl
  have hDc := hD.sub (ws' := [(mo, .inr (19, [.int 0, .int 0, .int 0, .int 0, .int 0, .int 0, .int 0, .ref ti, .ref si, .ref lo, .ref lh, .ref lk, .ref sp, .ref st, .ref pa, .ref br, .ref sg, .int 0, .int 0, .int 0, .int 0, .int 0, .int 0, .long 0, .long 0, .long 0, .long 0, .int 1]))]) [0] (by decide) rfl
  have hKc := hK.sub (tys' := []) [] rfl
  have hFc := va_free (wc := [(mo, .inr (19, [.int 0, .int 0, .int 0, .int 0, .int 0, .int 0, .int 0, .ref ti, .ref si, .ref lo, .ref lh, .ref lk, .ref sp, .ref st, .ref pa, .ref br, .ref sg, .int 0, .int 0, .int 0, .int 0, .int 0, .int 0, .long 0, .long 0, .long 0, .long 0, .int 1]))]) hD hS hA [0] rfl
  refine va_calli (va_runV (As := []) (rest := []) ⟨hx, hb, hml, hown, hts⟩ (k_m_thrown l dC dI z zK zV mo ti si lo lh lk sp st pa br sg 0 0 0 0 0 0 0 0 0 0 0 0 0 0 0 0 0 1 H.size) (cwV 0 hts hL_X15_thrown_100 rfl rfl rfl (by decide +kernel) ⟨Nat.le_of_ble_eq_true rfl, Nat.le_of_ble_eq_true rfl⟩) ⟨kP_blind, va_recv hKc hPc (ci := 19) (q0 := 0) rfl rfl, kP_go hPc hKc hDc hFc hM hS⟩ rfl rfl hl.1 rfl (lv_room (Nat.le_of_ble_eq_true rfl)) dL_law_886 ⟨Nat.le_of_ble_eq_true rfl, Nat.le_of_ble_eq_true rfl⟩) hS (fun q _ h => hFc q h) hFc (fun r3 u t H1 locs ht hvm hw hB hz1 hk1 hS => ?_)
  obtain ⟨hP, hD, hK⟩ := kJ (wr := []) (w1 := [(mo, .inr (19, [.int 0, .int 0, .int 0, .int 0, .int 0, .int 0, .int 0, .ref ti, .ref si, .ref lo, .ref lh, .ref lk, .ref sp, .ref st, .ref pa, .ref br, .ref sg, .int 0, .int 0, .int 0, .int 0, .int 0, .int 0, .long 0, .long 0, .long 0, .long 0, .int 1]))]) (t1 := []) hP hD hK [0] [] rfl rfl (by decide) (by decide) hk1 hFc ht hvm hB
  generalize H1 = H at hP hS ⊢
  have hP : va_P (dC, dI) vwCl [(mo, .inr (19, [.int 0, .int 0, .int 0, .int 0, .int 0, .int 0, .int 0, .ref ti, .ref si, .ref lo, .ref lh, .ref lk, .ref sp, .ref st, .ref pa, .ref br, .ref sg, .int 0, .int 0, .int 0, .int 0, .int 0, .int 0, .long 0, .long 0, .long 0, .long 0, .int 1]))] H := hP
  have hD : va_D A [(mo, .inr (19, [.int 0, .int 0, .int 0, .int 0, .int 0, .int 0, .int 0, .ref ti, .ref si, .ref lo, .ref lh, .ref lk, .ref sp, .ref st, .ref pa, .ref br, .ref sg, .int 0, .int 0, .int 0, .int 0, .int 0, .int 0, .long 0, .long 0, .long 0, .long 0, .int 1]))] := hD
  have hK : va_K (dC, dI) vwCl [(co, .long)] s := hK
  obtain rfl : 1 = r3 := hw
  refine lv_iload hx hb dL_law_889 (lv_at hl 1 rfl) ?_
  refine lv_icmp_eq (tgt := 896) hx hb dL_law_891 (by decide) (fun _ => ?_) (fun c_ => absurd (by decide +kernel) c_)
  refine lv_iload hx hb dL_law_896 (lv_at hl 1 rfl) ?_
  refine lv_if_ne (tgt := 913) hx hb dL_law_898 (by decide) (fun _ => ?_) (fun c_ => absurd c_ (by decide +kernel))
  refine lv_goto (tgt := 1684) hx hb dL_law_913 (by decide) ?_
  exact la_tail (dC := dC) (dI := dI) hst C0 hM hA hAl H locs hS ls (lv_sub hl [2, 7] rfl) (by omega) (by omega)
set_option maxHeartbeats 8000000 in
set_option maxRecDepth 100000 in
theorem la_line {p : Program} {l : Launch} {e : Env} {s : State} {m : MethodId} {below : List Frame} {meth : Method} {c : Code} {dC : Nat → ClassId} {dI : Nat → Nat → Nat} {z zK zV : Nat → Nat} {b : Nat} {xs : Nat → Int32} {A : Nat → Prop} (hst : l.stackTraces = false) (C0 : lw_At p s m meth c b 4 xs) (hM : am z zK zV A s s.heap) (hA : ∀ q : Nat, s.heap.size ≤ q → A q) (hAl : ∀ q : Nat, A q → s.heap.size ≤ q) (sh : Nat) (rg : Nat) (dk : Nat) (hd : Nat) (lg : Nat) (ll : Nat) (lm : Nat) (pl : Nat) (pr : Nat) (x : Nat) (tl : Nat) (tw : Nat) (p0 : Int32) (mo : Nat) (ti : Nat) (si : Nat) (lo : Nat) (lh : Nat) (lk : Nat) (sp : Nat) (st : Nat) (pa : Nat) (br : Nat) (sg : Nat) (ou : Nat) (co : ClassId) (of_ : Nat → Int64) (od_ : Nat)  (hs1 : xs 1 = p0) (H : Heap) (locs : List Loc) (hK : va_K (dC, dI) vwCl [(co, .long)] s) (hP : va_P (dC, dI) vwCl [(x, .inr (15, [.ref sh, .ref tl, .ref tw, .int 0])), (sh, .inr (13, [.ref rg, .ref dk, .ref hd, .ref lg, .ref pl, .ref pr, .int 0, .int 0, .int 0, .int 0, .int 0, .int 0, .int 0, .int 0, .int 0, .int 0, .int 0])), (lg, .inr (7, [.ref ll, .ref lm, .int 0, .int 0])), (mo, .inr (19, [.int 0, .int 0, .int 0, .int 0, .int 0, .int 0, .int 0, .ref ti, .ref si, .ref lo, .ref lh, .ref lk, .ref sp, .ref st, .ref pa, .ref br, .ref sg, .int 0, .int 0, .int 0, .int 0, .int 0, .int 0, .long 0, .long 0, .long 0, .long 0, .int 0])), (lk, .inr (3, [.int 0, .ref (z 0), .int 0])), (ou, .inl (co, 1, .inr (.inl of_)))] H) (hD : va_D A [(x, .inr (15, [.ref sh, .ref tl, .ref tw, .int 0])), (sh, .inr (13, [.ref rg, .ref dk, .ref hd, .ref lg, .ref pl, .ref pr, .int 0, .int 0, .int 0, .int 0, .int 0, .int 0, .int 0, .int 0, .int 0, .int 0, .int 0])), (lg, .inr (7, [.ref ll, .ref lm, .int 0, .int 0])), (mo, .inr (19, [.int 0, .int 0, .int 0, .int 0, .int 0, .int 0, .int 0, .ref ti, .ref si, .ref lo, .ref lh, .ref lk, .ref sp, .ref st, .ref pa, .ref br, .ref sg, .int 0, .int 0, .int 0, .int 0, .int 0, .int 0, .long 0, .long 0, .long 0, .long 0, .int 0])), (lk, .inr (3, [.int 0, .ref (z 0), .int 0])), (ou, .inl (co, 1, .inr (.inl of_)))]) (hS : va_S A s.heap H locs) (ls : Array Slot) (hl : lv_has ls 10 [(0, .ref b), (1, .ref x), (2, .ref mo), (3, .ref ou), (4, .ref od_), (5, .int 0)]) : W p l e room_1 s m #[Value.ref b] below meth c H locs 100 1400 (lw_Z below #[Value.ref b] s) (F0 m 1451 ls []) := by
  obtain ⟨hx, hb, hr, hml, hown, hts, hX, hbl, hlocks, hgv⟩ := id C0
  have hbA : ¬ A b := fun h => absurd (hAl b h) (Nat.not_le.mpr hbl)
  refine lv_aload_n hx hb dL_law_1451 rfl (lv_at hl 1 rfl) ?_
  refine lv_aload_n hx hb dL_law_1452 rfl (lv_at hl 0 rfl) ?_
  refine lv_iload hx hb dL_law_1453 (lv_at hl 5 rfl) ?_
  refine lv_iconst (v := 1) hx hb dL_law_1455 (by decide) ?_
  refine lv_iadd hx hb dL_law_1456 ?_
  refine kc_i (y := 1) (by decide +kernel) ?_
  refine va_sld hx hb hX hbl hbA hS (pk_in 1 4 (by decide) rfl) dL_law_1457 ?_
  refine kc_i (y := p0) (hs1 : xs 1 = p0) ?_
  refine lv_aload_n hx hb dL_law_1458 rfl (lv_at hl 3 rfl) ?_
  have hPc := hP.sub (ws' := [(x, .inr (15, [.ref sh, .ref tl, .ref tw, .int 0])), (sh, .inr (13, [.ref rg, .ref dk, .ref hd, .ref lg, .ref pl, .ref pr, .int 0, .int 0, .int 0, .int 0, .int 0, .int 0, .int 0, .int 0, .int 0, .int 0, .int 0])), (lg, .inr (7, [.ref ll, .ref lm, .int 0, .int 0])), (ou, .inl (co, 1, .inr (.inl of_)))]) [0, 1, 2, 5] rfl
  have hDc := hD.sub (ws' := [(x, .inr (15, [.ref sh, .ref tl, .ref tw, .int 0])), (sh, .inr (13, [.ref rg, .ref dk, .ref hd, .ref lg, .ref pl, .ref pr, .int 0, .int 0, .int 0, .int 0, .int 0, .int 0, .int 0, .int 0, .int 0, .int 0, .int 0])), (lg, .inr (7, [.ref ll, .ref lm, .int 0, .int 0])), (ou, .inl (co, 1, .inr (.inl of_)))]) [0, 1, 2, 5] (by decide) rfl
  have hKc := hK.sub (tys' := [(co, .long)]) [0] rfl
  have hFc := va_free (wc := [(x, .inr (15, [.ref sh, .ref tl, .ref tw, .int 0])), (sh, .inr (13, [.ref rg, .ref dk, .ref hd, .ref lg, .ref pl, .ref pr, .int 0, .int 0, .int 0, .int 0, .int 0, .int 0, .int 0, .int 0, .int 0, .int 0, .int 0])), (lg, .inr (7, [.ref ll, .ref lm, .int 0, .int 0])), (ou, .inl (co, 1, .inr (.inl of_)))]) hD hS hA [0, 1, 2, 5] rfl
  refine va_calli (vx_runSW (As := [.ref x, .int p0, .ref ou]) (rest := []) ⟨hx, hb, hml, hown, hts⟩ (k_l_line l dC dI z zK zV sh rg dk hd lg ll lm pl pr x tl tw p0 ou co of_ H.size hst) (vx_cwSW 3 hts hL_L_line_213 rfl rfl rfl (by decide +kernel) ⟨Nat.le_of_ble_eq_true rfl, Nat.le_of_ble_eq_true rfl⟩) ⟨kP_blind, kP_go hPc hKc hDc hFc hM hS⟩ rfl rfl hl.1 rfl (lv_room (Nat.le_of_ble_eq_true rfl)) dL_law_1459 ⟨Nat.le_of_ble_eq_true rfl, Nat.le_of_ble_eq_true rfl⟩) hS (fun q _ h => hFc q h) hFc (fun r1 u t H1 locs ht hvm hw hB hz1 hk1 hS => ?_)
  obtain ⟨hP, hD, hK⟩ := kJ (wr := [(mo, .inr (19, [.int 0, .int 0, .int 0, .int 0, .int 0, .int 0, .int 0, .ref ti, .ref si, .ref lo, .ref lh, .ref lk, .ref sp, .ref st, .ref pa, .ref br, .ref sg, .int 0, .int 0, .int 0, .int 0, .int 0, .int 0, .long 0, .long 0, .long 0, .long 0, .int 0])), (lk, .inr (3, [.int 0, .ref (z 0), .int 0]))]) (w1 := []) (t1 := []) hP hD hK [0, 1, 2, 5] [3, 4] rfl rfl (by decide) (by decide) hk1 hFc ht hvm hB
  generalize H1 = H at hP hS ⊢
  have hP : va_P (dC, dI) vwCl [(mo, .inr (19, [.int 0, .int 0, .int 0, .int 0, .int 0, .int 0, .int 0, .ref ti, .ref si, .ref lo, .ref lh, .ref lk, .ref sp, .ref st, .ref pa, .ref br, .ref sg, .int 0, .int 0, .int 0, .int 0, .int 0, .int 0, .long 0, .long 0, .long 0, .long 0, .int 0])), (lk, .inr (3, [.int 0, .ref (z 0), .int 0]))] H := hP
  have hD : va_D A [(mo, .inr (19, [.int 0, .int 0, .int 0, .int 0, .int 0, .int 0, .int 0, .ref ti, .ref si, .ref lo, .ref lh, .ref lk, .ref sp, .ref st, .ref pa, .ref br, .ref sg, .int 0, .int 0, .int 0, .int 0, .int 0, .int 0, .long 0, .long 0, .long 0, .long 0, .int 0])), (lk, .inr (3, [.int 0, .ref (z 0), .int 0]))] := hD
  have hK : va_K (dC, dI) vwCl [(co, .long)] s := hK
  obtain rfl : 1 = r1 := hw
  refine lv_istore (lv' := [(6, .int 1), (0, .ref b), (1, .ref x), (2, .ref mo), (3, .ref ou), (4, .ref od_), (5, .int 0)]) hx hb dL_law_1462 hl (by decide) rfl (fun ls hl => ?_)
  refine lv_aload_n hx hb dL_law_1464 rfl (lv_at hl 3 rfl) ?_
  refine lv_aload_n hx hb dL_law_1465 rfl (lv_at hl 1 rfl) ?_
  refine lv_iload hx hb dL_law_1466 (lv_at hl 6 rfl) ?_
  refine lv_iconst (v := 1) hx hb dL_law_1468 (by decide) ?_
  refine lv_iadd hx hb dL_law_1469 ?_
  refine kc_i (y := 1) (by decide +kernel) ?_
  refine va_sld hx hb hX hbl hbA hS (pk_in 1 4 (by decide) rfl) dL_law_1470 ?_
  refine kc_i (y := p0) (hs1 : xs 1 = p0) ?_
  have hPc := hP.sub (ws' := [(mo, .inr (19, [.int 0, .int 0, .int 0, .int 0, .int 0, .int 0, .int 0, .ref ti, .ref si, .ref lo, .ref lh, .ref lk, .ref sp, .ref st, .ref pa, .ref br, .ref sg, .int 0, .int 0, .int 0, .int 0, .int 0, .int 0, .long 0, .long 0, .long 0, .long 0, .int 0])), (lk, .inr (3, [.int 0, .ref (z 0), .int 0]))]) [0, 1] rfl
  have hDc := hD.sub (ws' := [(mo, .inr (19, [.int 0, .int 0, .int 0, .int 0, .int 0, .int 0, .int 0, .ref ti, .ref si, .ref lo, .ref lh, .ref lk, .ref sp, .ref st, .ref pa, .ref br, .ref sg, .int 0, .int 0, .int 0, .int 0, .int 0, .int 0, .long 0, .long 0, .long 0, .long 0, .int 0])), (lk, .inr (3, [.int 0, .ref (z 0), .int 0]))]) [0, 1] (by decide) rfl
  have hKc := hK.sub (tys' := []) [] rfl
  have hFc := va_free (wc := [(mo, .inr (19, [.int 0, .int 0, .int 0, .int 0, .int 0, .int 0, .int 0, .ref ti, .ref si, .ref lo, .ref lh, .ref lk, .ref sp, .ref st, .ref pa, .ref br, .ref sg, .int 0, .int 0, .int 0, .int 0, .int 0, .int 0, .long 0, .long 0, .long 0, .long 0, .int 0])), (lk, .inr (3, [.int 0, .ref (z 0), .int 0]))]) hD hS hA [0, 1] rfl
  refine va_calli (va_runV (As := [.int p0]) (rest := []) ⟨hx, hb, hml, hown, hts⟩ (k_m_line l dC dI z zK zV p0 mo ti si lo lh lk sp st pa br sg 0 H.size) (cwV 1 hts hL_X15_line_215 rfl rfl rfl (by decide +kernel) ⟨Nat.le_of_ble_eq_true rfl, Nat.le_of_ble_eq_true rfl⟩) ⟨kP_blind, va_recv hKc hPc (ci := 19) (q0 := 0) rfl rfl, kP_go hPc hKc hDc hFc hM hS⟩ rfl rfl hl.1 rfl (lv_room (Nat.le_of_ble_eq_true rfl)) dL_law_1471 ⟨Nat.le_of_ble_eq_true rfl, Nat.le_of_ble_eq_true rfl⟩) hS (fun q _ h => hFc q h) hFc (fun r2 u t H1 locs ht hvm hw hB hz1 hk1 hS => ?_)
  obtain ⟨hP, hD, hK⟩ := kJ (wr := []) (w1 := [(mo, .inr (19, [.int 0, .int 0, .int 0, .int 0, .int 0, .int 0, .int 0, .ref ti, .ref si, .ref lo, .ref lh, .ref lk, .ref sp, .ref st, .ref pa, .ref br, .ref sg, .int 0, .int 0, .int 0, .int 0, .int 0, .int 0, .long 0, .long 0, .long 0, .long 0, .int 1]))]) (t1 := []) hP hD hK [0, 1] [] rfl rfl (by decide) (by decide) hk1 hFc ht hvm hB
  generalize H1 = H at hP hS ⊢
  have hP : va_P (dC, dI) vwCl [(mo, .inr (19, [.int 0, .int 0, .int 0, .int 0, .int 0, .int 0, .int 0, .ref ti, .ref si, .ref lo, .ref lh, .ref lk, .ref sp, .ref st, .ref pa, .ref br, .ref sg, .int 0, .int 0, .int 0, .int 0, .int 0, .int 0, .long 0, .long 0, .long 0, .long 0, .int 1]))] H := hP
  have hD : va_D A [(mo, .inr (19, [.int 0, .int 0, .int 0, .int 0, .int 0, .int 0, .int 0, .ref ti, .ref si, .ref lo, .ref lh, .ref lk, .ref sp, .ref st, .ref pa, .ref br, .ref sg, .int 0, .int 0, .int 0, .int 0, .int 0, .int 0, .long 0, .long 0, .long 0, .long 0, .int 1]))] := hD
  have hK : va_K (dC, dI) vwCl [(co, .long)] s := hK
  obtain rfl : 32 = r2 := hw
  refine lv_istore (lv' := [(7, .int 32), (6, .int 1), (0, .ref b), (1, .ref x), (2, .ref mo), (3, .ref ou), (4, .ref od_), (5, .int 0)]) hx hb dL_law_1474 hl (by decide) rfl (fun ls hl => ?_)
  refine lv_aload_n hx hb dL_law_1476 rfl (lv_at hl 4 rfl) ?_
  have hPc := hP.sub (ws' := [(mo, .inr (19, [.int 0, .int 0, .int 0, .int 0, .int 0, .int 0, .int 0, .ref ti, .ref si, .ref lo, .ref lh, .ref lk, .ref sp, .ref st, .ref pa, .ref br, .ref sg, .int 0, .int 0, .int 0, .int 0, .int 0, .int 0, .long 0, .long 0, .long 0, .long 0, .int 1]))]) [0] rfl
  have hDc := hD.sub (ws' := [(mo, .inr (19, [.int 0, .int 0, .int 0, .int 0, .int 0, .int 0, .int 0, .ref ti, .ref si, .ref lo, .ref lh, .ref lk, .ref sp, .ref st, .ref pa, .ref br, .ref sg, .int 0, .int 0, .int 0, .int 0, .int 0, .int 0, .long 0, .long 0, .long 0, .long 0, .int 1]))]) [0] (by decide) rfl
  have hKc := hK.sub (tys' := []) [] rfl
  have hFc := va_free (wc := [(mo, .inr (19, [.int 0, .int 0, .int 0, .int 0, .int 0, .int 0, .int 0, .ref ti, .ref si, .ref lo, .ref lh, .ref lk, .ref sp, .ref st, .ref pa, .ref br, .ref sg, .int 0, .int 0, .int 0, .int 0, .int 0, .int 0, .long 0, .long 0, .long 0, .long 0, .int 1]))]) hD hS hA [0] rfl
  refine va_calli (va_runV (As := []) (rest := []) ⟨hx, hb, hml, hown, hts⟩ (k_m_thrown l dC dI z zK zV mo ti si lo lh lk sp st pa br sg 0 0 0 0 0 0 0 0 0 0 0 0 0 0 0 0 0 1 H.size) (cwV 0 hts hL_X15_thrown_100 rfl rfl rfl (by decide +kernel) ⟨Nat.le_of_ble_eq_true rfl, Nat.le_of_ble_eq_true rfl⟩) ⟨kP_blind, va_recv hKc hPc (ci := 19) (q0 := 0) rfl rfl, kP_go hPc hKc hDc hFc hM hS⟩ rfl rfl hl.1 rfl (lv_room (Nat.le_of_ble_eq_true rfl)) dL_law_1477 ⟨Nat.le_of_ble_eq_true rfl, Nat.le_of_ble_eq_true rfl⟩) hS (fun q _ h => hFc q h) hFc (fun r3 u t H1 locs ht hvm hw hB hz1 hk1 hS => ?_)
  obtain ⟨hP, hD, hK⟩ := kJ (wr := []) (w1 := [(mo, .inr (19, [.int 0, .int 0, .int 0, .int 0, .int 0, .int 0, .int 0, .ref ti, .ref si, .ref lo, .ref lh, .ref lk, .ref sp, .ref st, .ref pa, .ref br, .ref sg, .int 0, .int 0, .int 0, .int 0, .int 0, .int 0, .long 0, .long 0, .long 0, .long 0, .int 1]))]) (t1 := []) hP hD hK [0] [] rfl rfl (by decide) (by decide) hk1 hFc ht hvm hB
  generalize H1 = H at hP hS ⊢
  have hP : va_P (dC, dI) vwCl [(mo, .inr (19, [.int 0, .int 0, .int 0, .int 0, .int 0, .int 0, .int 0, .ref ti, .ref si, .ref lo, .ref lh, .ref lk, .ref sp, .ref st, .ref pa, .ref br, .ref sg, .int 0, .int 0, .int 0, .int 0, .int 0, .int 0, .long 0, .long 0, .long 0, .long 0, .int 1]))] H := hP
  have hD : va_D A [(mo, .inr (19, [.int 0, .int 0, .int 0, .int 0, .int 0, .int 0, .int 0, .ref ti, .ref si, .ref lo, .ref lh, .ref lk, .ref sp, .ref st, .ref pa, .ref br, .ref sg, .int 0, .int 0, .int 0, .int 0, .int 0, .int 0, .long 0, .long 0, .long 0, .long 0, .int 1]))] := hD
  have hK : va_K (dC, dI) vwCl [(co, .long)] s := hK
  obtain rfl : 1 = r3 := hw
  refine lv_iload hx hb dL_law_1480 (lv_at hl 1 rfl) ?_
  refine lv_icmp_eq (tgt := 1487) hx hb dL_law_1482 (by decide) (fun _ => ?_) (fun c_ => absurd (by decide +kernel) c_)
  refine lv_iload hx hb dL_law_1487 (lv_at hl 1 rfl) ?_
  refine lv_if_ne (tgt := 1504) hx hb dL_law_1489 (by decide) (fun _ => ?_) (fun c_ => absurd c_ (by decide +kernel))
  refine lv_goto (tgt := 1684) hx hb dL_law_1504 (by decide) ?_
  exact la_tail (dC := dC) (dI := dI) hst C0 hM hA hAl H locs hS ls (lv_sub hl [2, 7] rfl) (by omega) (by omega)
set_option maxHeartbeats 8000000 in
set_option maxRecDepth 100000 in
theorem la_lineMinute {p : Program} {l : Launch} {e : Env} {s : State} {m : MethodId} {below : List Frame} {meth : Method} {c : Code} {dC : Nat → ClassId} {dI : Nat → Nat → Nat} {z zK zV : Nat → Nat} {b : Nat} {xs : Nat → Int32} {A : Nat → Prop} (hst : l.stackTraces = false) (C0 : lw_At p s m meth c b 4 xs) (hM : am z zK zV A s s.heap) (hA : ∀ q : Nat, s.heap.size ≤ q → A q) (hAl : ∀ q : Nat, A q → s.heap.size ≤ q) (sh : Nat) (rg : Nat) (dk : Nat) (hd : Nat) (lg : Nat) (ll : Nat) (lm : Nat) (pl : Nat) (pr : Nat) (x : Nat) (tl : Nat) (tw : Nat) (p0 : Int32) (mo : Nat) (ti : Nat) (si : Nat) (lo : Nat) (lh : Nat) (lk : Nat) (sp : Nat) (st : Nat) (pa : Nat) (br : Nat) (sg : Nat) (ou : Nat) (co : ClassId) (of_ : Nat → Int64) (od_ : Nat)  (hs1 : xs 1 = p0) (H : Heap) (locs : List Loc) (hK : va_K (dC, dI) vwCl [(co, .long)] s) (hP : va_P (dC, dI) vwCl [(x, .inr (15, [.ref sh, .ref tl, .ref tw, .int 0])), (sh, .inr (13, [.ref rg, .ref dk, .ref hd, .ref lg, .ref pl, .ref pr, .int 0, .int 0, .int 0, .int 0, .int 0, .int 0, .int 0, .int 0, .int 0, .int 0, .int 0])), (lg, .inr (7, [.ref ll, .ref lm, .int 0, .int 0])), (mo, .inr (19, [.int 0, .int 0, .int 0, .int 0, .int 0, .int 0, .int 0, .ref ti, .ref si, .ref lo, .ref lh, .ref lk, .ref sp, .ref st, .ref pa, .ref br, .ref sg, .int 0, .int 0, .int 0, .int 0, .int 0, .int 0, .long 0, .long 0, .long 0, .long 0, .int 0])), (lk, .inr (3, [.int 0, .ref (z 0), .int 0])), (ou, .inl (co, 1, .inr (.inl of_)))] H) (hD : va_D A [(x, .inr (15, [.ref sh, .ref tl, .ref tw, .int 0])), (sh, .inr (13, [.ref rg, .ref dk, .ref hd, .ref lg, .ref pl, .ref pr, .int 0, .int 0, .int 0, .int 0, .int 0, .int 0, .int 0, .int 0, .int 0, .int 0, .int 0])), (lg, .inr (7, [.ref ll, .ref lm, .int 0, .int 0])), (mo, .inr (19, [.int 0, .int 0, .int 0, .int 0, .int 0, .int 0, .int 0, .ref ti, .ref si, .ref lo, .ref lh, .ref lk, .ref sp, .ref st, .ref pa, .ref br, .ref sg, .int 0, .int 0, .int 0, .int 0, .int 0, .int 0, .long 0, .long 0, .long 0, .long 0, .int 0])), (lk, .inr (3, [.int 0, .ref (z 0), .int 0])), (ou, .inl (co, 1, .inr (.inl of_)))]) (hS : va_S A s.heap H locs) (ls : Array Slot) (hl : lv_has ls 10 [(0, .ref b), (1, .ref x), (2, .ref mo), (3, .ref ou), (4, .ref od_), (5, .int 0)]) : W p l e room_1 s m #[Value.ref b] below meth c H locs 100 1400 (lw_Z below #[Value.ref b] s) (F0 m 1507 ls []) := by
  obtain ⟨hx, hb, hr, hml, hown, hts, hX, hbl, hlocks, hgv⟩ := id C0
  have hbA : ¬ A b := fun h => absurd (hAl b h) (Nat.not_le.mpr hbl)
  refine lv_aload_n hx hb dL_law_1507 rfl (lv_at hl 1 rfl) ?_
  refine lv_aload_n hx hb dL_law_1508 rfl (lv_at hl 0 rfl) ?_
  refine lv_iload hx hb dL_law_1509 (lv_at hl 5 rfl) ?_
  refine lv_iconst (v := 1) hx hb dL_law_1511 (by decide) ?_
  refine lv_iadd hx hb dL_law_1512 ?_
  refine kc_i (y := 1) (by decide +kernel) ?_
  refine va_sld hx hb hX hbl hbA hS (pk_in 1 4 (by decide) rfl) dL_law_1513 ?_
  refine kc_i (y := p0) (hs1 : xs 1 = p0) ?_
  refine lv_aload_n hx hb dL_law_1514 rfl (lv_at hl 3 rfl) ?_
  have hPc := hP.sub (ws' := [(x, .inr (15, [.ref sh, .ref tl, .ref tw, .int 0])), (sh, .inr (13, [.ref rg, .ref dk, .ref hd, .ref lg, .ref pl, .ref pr, .int 0, .int 0, .int 0, .int 0, .int 0, .int 0, .int 0, .int 0, .int 0, .int 0, .int 0])), (lg, .inr (7, [.ref ll, .ref lm, .int 0, .int 0])), (ou, .inl (co, 1, .inr (.inl of_)))]) [0, 1, 2, 5] rfl
  have hDc := hD.sub (ws' := [(x, .inr (15, [.ref sh, .ref tl, .ref tw, .int 0])), (sh, .inr (13, [.ref rg, .ref dk, .ref hd, .ref lg, .ref pl, .ref pr, .int 0, .int 0, .int 0, .int 0, .int 0, .int 0, .int 0, .int 0, .int 0, .int 0, .int 0])), (lg, .inr (7, [.ref ll, .ref lm, .int 0, .int 0])), (ou, .inl (co, 1, .inr (.inl of_)))]) [0, 1, 2, 5] (by decide) rfl
  have hKc := hK.sub (tys' := [(co, .long)]) [0] rfl
  have hFc := va_free (wc := [(x, .inr (15, [.ref sh, .ref tl, .ref tw, .int 0])), (sh, .inr (13, [.ref rg, .ref dk, .ref hd, .ref lg, .ref pl, .ref pr, .int 0, .int 0, .int 0, .int 0, .int 0, .int 0, .int 0, .int 0, .int 0, .int 0, .int 0])), (lg, .inr (7, [.ref ll, .ref lm, .int 0, .int 0])), (ou, .inl (co, 1, .inr (.inl of_)))]) hD hS hA [0, 1, 2, 5] rfl
  refine va_calli (vx_runSW (As := [.ref x, .int p0, .ref ou]) (rest := []) ⟨hx, hb, hml, hown, hts⟩ (k_l_lineMinute l dC dI z zK zV sh rg dk hd lg ll lm pl pr x tl tw p0 ou co of_ H.size hst) (vx_cwSW 3 hts hL_L_lineMinute_216 rfl rfl rfl (by decide +kernel) ⟨Nat.le_of_ble_eq_true rfl, Nat.le_of_ble_eq_true rfl⟩) ⟨kP_blind, kP_go hPc hKc hDc hFc hM hS⟩ rfl rfl hl.1 rfl (lv_room (Nat.le_of_ble_eq_true rfl)) dL_law_1515 ⟨Nat.le_of_ble_eq_true rfl, Nat.le_of_ble_eq_true rfl⟩) hS (fun q _ h => hFc q h) hFc (fun r1 u t H1 locs ht hvm hw hB hz1 hk1 hS => ?_)
  obtain ⟨hP, hD, hK⟩ := kJ (wr := [(mo, .inr (19, [.int 0, .int 0, .int 0, .int 0, .int 0, .int 0, .int 0, .ref ti, .ref si, .ref lo, .ref lh, .ref lk, .ref sp, .ref st, .ref pa, .ref br, .ref sg, .int 0, .int 0, .int 0, .int 0, .int 0, .int 0, .long 0, .long 0, .long 0, .long 0, .int 0])), (lk, .inr (3, [.int 0, .ref (z 0), .int 0]))]) (w1 := []) (t1 := []) hP hD hK [0, 1, 2, 5] [3, 4] rfl rfl (by decide) (by decide) hk1 hFc ht hvm hB
  generalize H1 = H at hP hS ⊢
  have hP : va_P (dC, dI) vwCl [(mo, .inr (19, [.int 0, .int 0, .int 0, .int 0, .int 0, .int 0, .int 0, .ref ti, .ref si, .ref lo, .ref lh, .ref lk, .ref sp, .ref st, .ref pa, .ref br, .ref sg, .int 0, .int 0, .int 0, .int 0, .int 0, .int 0, .long 0, .long 0, .long 0, .long 0, .int 0])), (lk, .inr (3, [.int 0, .ref (z 0), .int 0]))] H := hP
  have hD : va_D A [(mo, .inr (19, [.int 0, .int 0, .int 0, .int 0, .int 0, .int 0, .int 0, .ref ti, .ref si, .ref lo, .ref lh, .ref lk, .ref sp, .ref st, .ref pa, .ref br, .ref sg, .int 0, .int 0, .int 0, .int 0, .int 0, .int 0, .long 0, .long 0, .long 0, .long 0, .int 0])), (lk, .inr (3, [.int 0, .ref (z 0), .int 0]))] := hD
  have hK : va_K (dC, dI) vwCl [(co, .long)] s := hK
  obtain rfl : 1 = r1 := hw
  refine lv_istore (lv' := [(6, .int 1), (0, .ref b), (1, .ref x), (2, .ref mo), (3, .ref ou), (4, .ref od_), (5, .int 0)]) hx hb dL_law_1518 hl (by decide) rfl (fun ls hl => ?_)
  refine lv_aload_n hx hb dL_law_1520 rfl (lv_at hl 3 rfl) ?_
  refine lv_aload_n hx hb dL_law_1521 rfl (lv_at hl 1 rfl) ?_
  refine lv_iload hx hb dL_law_1522 (lv_at hl 6 rfl) ?_
  refine lv_iconst (v := 1) hx hb dL_law_1524 (by decide) ?_
  refine lv_iadd hx hb dL_law_1525 ?_
  refine kc_i (y := 1) (by decide +kernel) ?_
  refine va_sld hx hb hX hbl hbA hS (pk_in 1 4 (by decide) rfl) dL_law_1526 ?_
  refine kc_i (y := p0) (hs1 : xs 1 = p0) ?_
  have hPc := hP.sub (ws' := [(mo, .inr (19, [.int 0, .int 0, .int 0, .int 0, .int 0, .int 0, .int 0, .ref ti, .ref si, .ref lo, .ref lh, .ref lk, .ref sp, .ref st, .ref pa, .ref br, .ref sg, .int 0, .int 0, .int 0, .int 0, .int 0, .int 0, .long 0, .long 0, .long 0, .long 0, .int 0])), (lk, .inr (3, [.int 0, .ref (z 0), .int 0]))]) [0, 1] rfl
  have hDc := hD.sub (ws' := [(mo, .inr (19, [.int 0, .int 0, .int 0, .int 0, .int 0, .int 0, .int 0, .ref ti, .ref si, .ref lo, .ref lh, .ref lk, .ref sp, .ref st, .ref pa, .ref br, .ref sg, .int 0, .int 0, .int 0, .int 0, .int 0, .int 0, .long 0, .long 0, .long 0, .long 0, .int 0])), (lk, .inr (3, [.int 0, .ref (z 0), .int 0]))]) [0, 1] (by decide) rfl
  have hKc := hK.sub (tys' := []) [] rfl
  have hFc := va_free (wc := [(mo, .inr (19, [.int 0, .int 0, .int 0, .int 0, .int 0, .int 0, .int 0, .ref ti, .ref si, .ref lo, .ref lh, .ref lk, .ref sp, .ref st, .ref pa, .ref br, .ref sg, .int 0, .int 0, .int 0, .int 0, .int 0, .int 0, .long 0, .long 0, .long 0, .long 0, .int 0])), (lk, .inr (3, [.int 0, .ref (z 0), .int 0]))]) hD hS hA [0, 1] rfl
  refine va_calli (va_runV (As := [.int p0]) (rest := []) ⟨hx, hb, hml, hown, hts⟩ (k_m_lineMinute l dC dI z zK zV p0 mo ti si lo lh lk sp st pa br sg 0 H.size) (cwV 1 hts hL_X15_lineMinute_218 rfl rfl rfl (by decide +kernel) ⟨Nat.le_of_ble_eq_true rfl, Nat.le_of_ble_eq_true rfl⟩) ⟨kP_blind, va_recv hKc hPc (ci := 19) (q0 := 0) rfl rfl, kP_go hPc hKc hDc hFc hM hS⟩ rfl rfl hl.1 rfl (lv_room (Nat.le_of_ble_eq_true rfl)) dL_law_1527 ⟨Nat.le_of_ble_eq_true rfl, Nat.le_of_ble_eq_true rfl⟩) hS (fun q _ h => hFc q h) hFc (fun r2 u t H1 locs ht hvm hw hB hz1 hk1 hS => ?_)
  obtain ⟨hP, hD, hK⟩ := kJ (wr := []) (w1 := [(mo, .inr (19, [.int 0, .int 0, .int 0, .int 0, .int 0, .int 0, .int 0, .ref ti, .ref si, .ref lo, .ref lh, .ref lk, .ref sp, .ref st, .ref pa, .ref br, .ref sg, .int 0, .int 0, .int 0, .int 0, .int 0, .int 0, .long 0, .long 0, .long 0, .long 0, .int 1]))]) (t1 := []) hP hD hK [0, 1] [] rfl rfl (by decide) (by decide) hk1 hFc ht hvm hB
  generalize H1 = H at hP hS ⊢
  have hP : va_P (dC, dI) vwCl [(mo, .inr (19, [.int 0, .int 0, .int 0, .int 0, .int 0, .int 0, .int 0, .ref ti, .ref si, .ref lo, .ref lh, .ref lk, .ref sp, .ref st, .ref pa, .ref br, .ref sg, .int 0, .int 0, .int 0, .int 0, .int 0, .int 0, .long 0, .long 0, .long 0, .long 0, .int 1]))] H := hP
  have hD : va_D A [(mo, .inr (19, [.int 0, .int 0, .int 0, .int 0, .int 0, .int 0, .int 0, .ref ti, .ref si, .ref lo, .ref lh, .ref lk, .ref sp, .ref st, .ref pa, .ref br, .ref sg, .int 0, .int 0, .int 0, .int 0, .int 0, .int 0, .long 0, .long 0, .long 0, .long 0, .int 1]))] := hD
  have hK : va_K (dC, dI) vwCl [(co, .long)] s := hK
  obtain rfl : (-1) = r2 := hw
  refine lv_istore (lv' := [(7, .int (-1)), (6, .int 1), (0, .ref b), (1, .ref x), (2, .ref mo), (3, .ref ou), (4, .ref od_), (5, .int 0)]) hx hb dL_law_1530 hl (by decide) rfl (fun ls hl => ?_)
  refine lv_aload_n hx hb dL_law_1532 rfl (lv_at hl 4 rfl) ?_
  have hPc := hP.sub (ws' := [(mo, .inr (19, [.int 0, .int 0, .int 0, .int 0, .int 0, .int 0, .int 0, .ref ti, .ref si, .ref lo, .ref lh, .ref lk, .ref sp, .ref st, .ref pa, .ref br, .ref sg, .int 0, .int 0, .int 0, .int 0, .int 0, .int 0, .long 0, .long 0, .long 0, .long 0, .int 1]))]) [0] rfl
  have hDc := hD.sub (ws' := [(mo, .inr (19, [.int 0, .int 0, .int 0, .int 0, .int 0, .int 0, .int 0, .ref ti, .ref si, .ref lo, .ref lh, .ref lk, .ref sp, .ref st, .ref pa, .ref br, .ref sg, .int 0, .int 0, .int 0, .int 0, .int 0, .int 0, .long 0, .long 0, .long 0, .long 0, .int 1]))]) [0] (by decide) rfl
  have hKc := hK.sub (tys' := []) [] rfl
  have hFc := va_free (wc := [(mo, .inr (19, [.int 0, .int 0, .int 0, .int 0, .int 0, .int 0, .int 0, .ref ti, .ref si, .ref lo, .ref lh, .ref lk, .ref sp, .ref st, .ref pa, .ref br, .ref sg, .int 0, .int 0, .int 0, .int 0, .int 0, .int 0, .long 0, .long 0, .long 0, .long 0, .int 1]))]) hD hS hA [0] rfl
  refine va_calli (va_runV (As := []) (rest := []) ⟨hx, hb, hml, hown, hts⟩ (k_m_thrown l dC dI z zK zV mo ti si lo lh lk sp st pa br sg 0 0 0 0 0 0 0 0 0 0 0 0 0 0 0 0 0 1 H.size) (cwV 0 hts hL_X15_thrown_100 rfl rfl rfl (by decide +kernel) ⟨Nat.le_of_ble_eq_true rfl, Nat.le_of_ble_eq_true rfl⟩) ⟨kP_blind, va_recv hKc hPc (ci := 19) (q0 := 0) rfl rfl, kP_go hPc hKc hDc hFc hM hS⟩ rfl rfl hl.1 rfl (lv_room (Nat.le_of_ble_eq_true rfl)) dL_law_1533 ⟨Nat.le_of_ble_eq_true rfl, Nat.le_of_ble_eq_true rfl⟩) hS (fun q _ h => hFc q h) hFc (fun r3 u t H1 locs ht hvm hw hB hz1 hk1 hS => ?_)
  obtain ⟨hP, hD, hK⟩ := kJ (wr := []) (w1 := [(mo, .inr (19, [.int 0, .int 0, .int 0, .int 0, .int 0, .int 0, .int 0, .ref ti, .ref si, .ref lo, .ref lh, .ref lk, .ref sp, .ref st, .ref pa, .ref br, .ref sg, .int 0, .int 0, .int 0, .int 0, .int 0, .int 0, .long 0, .long 0, .long 0, .long 0, .int 1]))]) (t1 := []) hP hD hK [0] [] rfl rfl (by decide) (by decide) hk1 hFc ht hvm hB
  generalize H1 = H at hP hS ⊢
  have hP : va_P (dC, dI) vwCl [(mo, .inr (19, [.int 0, .int 0, .int 0, .int 0, .int 0, .int 0, .int 0, .ref ti, .ref si, .ref lo, .ref lh, .ref lk, .ref sp, .ref st, .ref pa, .ref br, .ref sg, .int 0, .int 0, .int 0, .int 0, .int 0, .int 0, .long 0, .long 0, .long 0, .long 0, .int 1]))] H := hP
  have hD : va_D A [(mo, .inr (19, [.int 0, .int 0, .int 0, .int 0, .int 0, .int 0, .int 0, .ref ti, .ref si, .ref lo, .ref lh, .ref lk, .ref sp, .ref st, .ref pa, .ref br, .ref sg, .int 0, .int 0, .int 0, .int 0, .int 0, .int 0, .long 0, .long 0, .long 0, .long 0, .int 1]))] := hD
  have hK : va_K (dC, dI) vwCl [(co, .long)] s := hK
  obtain rfl : 1 = r3 := hw
  refine lv_iload hx hb dL_law_1536 (lv_at hl 1 rfl) ?_
  refine lv_icmp_eq (tgt := 1543) hx hb dL_law_1538 (by decide) (fun _ => ?_) (fun c_ => absurd (by decide +kernel) c_)
  refine lv_iload hx hb dL_law_1543 (lv_at hl 1 rfl) ?_
  refine lv_if_ne (tgt := 1560) hx hb dL_law_1545 (by decide) (fun _ => ?_) (fun c_ => absurd c_ (by decide +kernel))
  refine lv_goto (tgt := 1684) hx hb dL_law_1560 (by decide) ?_
  exact la_tail (dC := dC) (dI := dI) hst C0 hM hA hAl H locs hS ls (lv_sub hl [2, 7] rfl) (by omega) (by omega)
set_option maxHeartbeats 8000000 in
set_option maxRecDepth 100000 in
theorem la_tired0 {p : Program} {l : Launch} {e : Env} {s : State} {m : MethodId} {below : List Frame} {meth : Method} {c : Code} {dC : Nat → ClassId} {dI : Nat → Nat → Nat} {z zK zV : Nat → Nat} {b : Nat} {xs : Nat → Int32} {A : Nat → Prop} (hst : l.stackTraces = false) (C0 : lw_At p s m meth c b 4 xs) (hM : am z zK zV A s s.heap) (hA : ∀ q : Nat, s.heap.size ≤ q → A q) (hAl : ∀ q : Nat, A q → s.heap.size ≤ q) (sh : Nat) (rg : Nat) (dk : Nat) (w0 : Nat) (w1 : Nat) (ol : Nat) (hd : Nat) (lg : Nat) (pl : Nat) (pr : Nat) (x : Nat) (tl : Nat) (tw : Nat) (mo : Nat) (ti : Nat) (si : Nat) (lo : Nat) (lh : Nat) (lk : Nat) (sp : Nat) (st : Nat) (pa : Nat) (br : Nat) (sg : Nat) (cti : ClassId) (ou : Nat) (co : ClassId) (of_ : Nat → Int64) (od_ : Nat)  (hs1 : xs 1 = 0) (H : Heap) (locs : List Loc) (hK : va_K (dC, dI) vwCl [(cti, .int), (co, .long)] s) (hP : va_P (dC, dI) vwCl [(x, .inr (15, [.ref sh, .ref tl, .ref tw, .int 0])), (sh, .inr (13, [.ref rg, .ref dk, .ref hd, .ref lg, .ref pl, .ref pr, .int 0, .int 0, .int 0, .int 0, .int 0, .int 0, .int 0, .int 0, .int 0, .int 0, .int 0])), (dk, .inr (4, [.ref w0, .ref w1, .ref ol, .int 0, .int 0, .int 0, .int 0])), (w0, .inr (14, [.int 0, .int 0])), (w1, .inr (14, [.int 0, .int 0])), (mo, .inr (19, [.int 0, .int 0, .int 0, .int 0, .int 0, .int 0, .int 0, .ref ti, .ref si, .ref lo, .ref lh, .ref lk, .ref sp, .ref st, .ref pa, .ref br, .ref sg, .int 0, .int 0, .int 0, .int 0, .int 0, .int 0, .long 0, .long 0, .long 0, .long 0, .int 0])), (ti, .inl (cti, 2, .inl (fun _ => 0))), (ou, .inl (co, 1, .inr (.inl of_)))] H) (hD : va_D A [(x, .inr (15, [.ref sh, .ref tl, .ref tw, .int 0])), (sh, .inr (13, [.ref rg, .ref dk, .ref hd, .ref lg, .ref pl, .ref pr, .int 0, .int 0, .int 0, .int 0, .int 0, .int 0, .int 0, .int 0, .int 0, .int 0, .int 0])), (dk, .inr (4, [.ref w0, .ref w1, .ref ol, .int 0, .int 0, .int 0, .int 0])), (w0, .inr (14, [.int 0, .int 0])), (w1, .inr (14, [.int 0, .int 0])), (mo, .inr (19, [.int 0, .int 0, .int 0, .int 0, .int 0, .int 0, .int 0, .ref ti, .ref si, .ref lo, .ref lh, .ref lk, .ref sp, .ref st, .ref pa, .ref br, .ref sg, .int 0, .int 0, .int 0, .int 0, .int 0, .int 0, .long 0, .long 0, .long 0, .long 0, .int 0])), (ti, .inl (cti, 2, .inl (fun _ => 0))), (ou, .inl (co, 1, .inr (.inl of_)))]) (hS : va_S A s.heap H locs) (ls : Array Slot) (hl : lv_has ls 10 [(0, .ref b), (1, .ref x), (2, .ref mo), (3, .ref ou), (4, .ref od_), (5, .int 0)]) : W p l e room_1 s m #[Value.ref b] below meth c H locs 100 1400 (lw_Z below #[Value.ref b] s) (F0 m 664 ls []) := by
  obtain ⟨hx, hb, hr, hml, hown, hts, hX, hbl, hlocks, hgv⟩ := id C0
  have hbA : ¬ A b := fun h => absurd (hAl b h) (Nat.not_le.mpr hbl)
  refine lv_aload_n hx hb dL_law_664 rfl (lv_at hl 1 rfl) ?_
  refine lv_aload_n hx hb dL_law_665 rfl (lv_at hl 0 rfl) ?_
  refine lv_iload hx hb dL_law_666 (lv_at hl 5 rfl) ?_
  refine lv_iconst (v := 1) hx hb dL_law_668 (by decide) ?_
  refine lv_iadd hx hb dL_law_669 ?_
  refine kc_i (y := 1) (by decide +kernel) ?_
  refine va_sld hx hb hX hbl hbA hS (pk_in 1 4 (by decide) rfl) dL_law_670 ?_
  refine kc_i (y := 0) (hs1 : xs 1 = 0) ?_
  refine lv_aload_n hx hb dL_law_671 rfl (lv_at hl 3 rfl) ?_
  have hPc := hP.sub (ws' := [(x, .inr (15, [.ref sh, .ref tl, .ref tw, .int 0])), (sh, .inr (13, [.ref rg, .ref dk, .ref hd, .ref lg, .ref pl, .ref pr, .int 0, .int 0, .int 0, .int 0, .int 0, .int 0, .int 0, .int 0, .int 0, .int 0, .int 0])), (dk, .inr (4, [.ref w0, .ref w1, .ref ol, .int 0, .int 0, .int 0, .int 0])), (w0, .inr (14, [.int 0, .int 0])), (w1, .inr (14, [.int 0, .int 0])), (ou, .inl (co, 1, .inr (.inl of_)))]) [0, 1, 2, 3, 4, 7] rfl
  have hDc := hD.sub (ws' := [(x, .inr (15, [.ref sh, .ref tl, .ref tw, .int 0])), (sh, .inr (13, [.ref rg, .ref dk, .ref hd, .ref lg, .ref pl, .ref pr, .int 0, .int 0, .int 0, .int 0, .int 0, .int 0, .int 0, .int 0, .int 0, .int 0, .int 0])), (dk, .inr (4, [.ref w0, .ref w1, .ref ol, .int 0, .int 0, .int 0, .int 0])), (w0, .inr (14, [.int 0, .int 0])), (w1, .inr (14, [.int 0, .int 0])), (ou, .inl (co, 1, .inr (.inl of_)))]) [0, 1, 2, 3, 4, 7] (by decide) rfl
  have hKc := hK.sub (tys' := [(co, .long)]) [1] rfl
  have hFc := va_free (wc := [(x, .inr (15, [.ref sh, .ref tl, .ref tw, .int 0])), (sh, .inr (13, [.ref rg, .ref dk, .ref hd, .ref lg, .ref pl, .ref pr, .int 0, .int 0, .int 0, .int 0, .int 0, .int 0, .int 0, .int 0, .int 0, .int 0, .int 0])), (dk, .inr (4, [.ref w0, .ref w1, .ref ol, .int 0, .int 0, .int 0, .int 0])), (w0, .inr (14, [.int 0, .int 0])), (w1, .inr (14, [.int 0, .int 0])), (ou, .inl (co, 1, .inr (.inl of_)))]) hD hS hA [0, 1, 2, 3, 4, 7] rfl
  refine va_calli (vx_runSW (As := [.ref x, .int 0, .ref ou]) (rest := []) ⟨hx, hb, hml, hown, hts⟩ (k_l_tired0 l dC dI z zK zV sh rg dk w0 w1 ol hd lg pl pr x tl tw ou co of_ H.size) (vx_cwSW 3 hts hL_L_tired_133 rfl rfl rfl (by decide +kernel) ⟨Nat.le_of_ble_eq_true rfl, Nat.le_of_ble_eq_true rfl⟩) ⟨kP_blind, kP_go hPc hKc hDc hFc hM hS⟩ rfl rfl hl.1 rfl (lv_room (Nat.le_of_ble_eq_true rfl)) dL_law_672 ⟨Nat.le_of_ble_eq_true rfl, Nat.le_of_ble_eq_true rfl⟩) hS (fun q _ h => hFc q h) hFc (fun r1 u t H1 locs ht hvm hw hB hz1 hk1 hS => ?_)
  obtain ⟨hP, hD, hK⟩ := kJ (wr := [(mo, .inr (19, [.int 0, .int 0, .int 0, .int 0, .int 0, .int 0, .int 0, .ref ti, .ref si, .ref lo, .ref lh, .ref lk, .ref sp, .ref st, .ref pa, .ref br, .ref sg, .int 0, .int 0, .int 0, .int 0, .int 0, .int 0, .long 0, .long 0, .long 0, .long 0, .int 0])), (ti, .inl (cti, 2, .inl (fun _ => 0)))]) (w1 := [(ou, .inl (co, 1, .inr (.inl (vp_updL of_ 0 0))))]) (t1 := []) hP hD hK [0, 1, 2, 3, 4, 7] [5, 6] rfl rfl (by decide) (by decide) hk1 hFc ht hvm hB
  generalize H1 = H at hP hS ⊢
  have hP : va_P (dC, dI) vwCl [(mo, .inr (19, [.int 0, .int 0, .int 0, .int 0, .int 0, .int 0, .int 0, .ref ti, .ref si, .ref lo, .ref lh, .ref lk, .ref sp, .ref st, .ref pa, .ref br, .ref sg, .int 0, .int 0, .int 0, .int 0, .int 0, .int 0, .long 0, .long 0, .long 0, .long 0, .int 0])), (ti, .inl (cti, 2, .inl (fun _ => 0))), (ou, .inl (co, 1, .inr (.inl (vp_updL of_ 0 0))))] H := hP
  have hD : va_D A [(mo, .inr (19, [.int 0, .int 0, .int 0, .int 0, .int 0, .int 0, .int 0, .ref ti, .ref si, .ref lo, .ref lh, .ref lk, .ref sp, .ref st, .ref pa, .ref br, .ref sg, .int 0, .int 0, .int 0, .int 0, .int 0, .int 0, .long 0, .long 0, .long 0, .long 0, .int 0])), (ti, .inl (cti, 2, .inl (fun _ => 0))), (ou, .inl (co, 1, .inr (.inl (vp_updL of_ 0 0))))] := hD
  have hK : va_K (dC, dI) vwCl [(cti, .int), (co, .long)] s := hK
  obtain rfl : 0 = r1 := hw
  refine lv_istore (lv' := [(6, .int 0), (0, .ref b), (1, .ref x), (2, .ref mo), (3, .ref ou), (4, .ref od_), (5, .int 0)]) hx hb dL_law_675 hl (by decide) rfl (fun ls hl => ?_)
  refine lv_aload_n hx hb dL_law_677 rfl (lv_at hl 3 rfl) ?_
  refine lv_aload_n hx hb dL_law_678 rfl (lv_at hl 1 rfl) ?_
  refine lv_iload hx hb dL_law_679 (lv_at hl 6 rfl) ?_
  refine lv_iconst (v := 1) hx hb dL_law_681 (by decide) ?_
  refine lv_iadd hx hb dL_law_682 ?_
  refine kc_i (y := 1) (by decide +kernel) ?_
  refine va_sld hx hb hX hbl hbA hS (pk_in 1 4 (by decide) rfl) dL_law_683 ?_
  refine kc_i (y := 0) (hs1 : xs 1 = 0) ?_
  have hPc := hP.sub (ws' := [(mo, .inr (19, [.int 0, .int 0, .int 0, .int 0, .int 0, .int 0, .int 0, .ref ti, .ref si, .ref lo, .ref lh, .ref lk, .ref sp, .ref st, .ref pa, .ref br, .ref sg, .int 0, .int 0, .int 0, .int 0, .int 0, .int 0, .long 0, .long 0, .long 0, .long 0, .int 0])), (ti, .inl (cti, 2, .inl (fun _ => 0)))]) [0, 1] rfl
  have hDc := hD.sub (ws' := [(mo, .inr (19, [.int 0, .int 0, .int 0, .int 0, .int 0, .int 0, .int 0, .ref ti, .ref si, .ref lo, .ref lh, .ref lk, .ref sp, .ref st, .ref pa, .ref br, .ref sg, .int 0, .int 0, .int 0, .int 0, .int 0, .int 0, .long 0, .long 0, .long 0, .long 0, .int 0])), (ti, .inl (cti, 2, .inl (fun _ => 0)))]) [0, 1] (by decide) rfl
  have hKc := hK.sub (tys' := [(cti, .int)]) [0] rfl
  have hFc := va_free (wc := [(mo, .inr (19, [.int 0, .int 0, .int 0, .int 0, .int 0, .int 0, .int 0, .ref ti, .ref si, .ref lo, .ref lh, .ref lk, .ref sp, .ref st, .ref pa, .ref br, .ref sg, .int 0, .int 0, .int 0, .int 0, .int 0, .int 0, .long 0, .long 0, .long 0, .long 0, .int 0])), (ti, .inl (cti, 2, .inl (fun _ => 0)))]) hD hS hA [0, 1] rfl
  refine va_calli (va_runV (As := [.int 0]) (rest := []) ⟨hx, hb, hml, hown, hts⟩ (k_m_tired0 l dC dI z zK zV mo ti si lo lh lk sp st pa br sg cti 0 H.size) (cwV 1 hts hL_X15_tired_135 rfl rfl rfl (by decide +kernel) ⟨Nat.le_of_ble_eq_true rfl, Nat.le_of_ble_eq_true rfl⟩) ⟨kP_blind, va_recv hKc hPc (ci := 19) (q0 := 0) rfl rfl, kP_go hPc hKc hDc hFc hM hS⟩ rfl rfl hl.1 rfl (lv_room (Nat.le_of_ble_eq_true rfl)) dL_law_684 ⟨Nat.le_of_ble_eq_true rfl, Nat.le_of_ble_eq_true rfl⟩) hS (fun q _ h => hFc q h) hFc (fun r2 u t H1 locs ht hvm hw hB hz1 hk1 hS => ?_)
  obtain ⟨hP, hD, hK⟩ := kJ (wr := [(ou, .inl (co, 1, .inr (.inl (vp_updL of_ 0 0))))]) (w1 := [(mo, .inr (19, [.int 0, .int 0, .int 0, .int 0, .int 0, .int 0, .int 0, .ref ti, .ref si, .ref lo, .ref lh, .ref lk, .ref sp, .ref st, .ref pa, .ref br, .ref sg, .int 0, .int 0, .int 0, .int 0, .int 0, .int 0, .long 0, .long 0, .long 0, .long 0, .int 0]))]) (t1 := []) hP hD hK [0, 1] [2] rfl rfl (by decide) (by decide) hk1 hFc ht hvm hB
  generalize H1 = H at hP hS ⊢
  have hP : va_P (dC, dI) vwCl [(ou, .inl (co, 1, .inr (.inl (vp_updL of_ 0 0)))), (mo, .inr (19, [.int 0, .int 0, .int 0, .int 0, .int 0, .int 0, .int 0, .ref ti, .ref si, .ref lo, .ref lh, .ref lk, .ref sp, .ref st, .ref pa, .ref br, .ref sg, .int 0, .int 0, .int 0, .int 0, .int 0, .int 0, .long 0, .long 0, .long 0, .long 0, .int 0]))] H := hP
  have hD : va_D A [(ou, .inl (co, 1, .inr (.inl (vp_updL of_ 0 0)))), (mo, .inr (19, [.int 0, .int 0, .int 0, .int 0, .int 0, .int 0, .int 0, .ref ti, .ref si, .ref lo, .ref lh, .ref lk, .ref sp, .ref st, .ref pa, .ref br, .ref sg, .int 0, .int 0, .int 0, .int 0, .int 0, .int 0, .long 0, .long 0, .long 0, .long 0, .int 0]))] := hD
  have hK : va_K (dC, dI) vwCl [(cti, .int), (co, .long)] s := hK
  obtain rfl : 0 = r2 := hw
  refine lv_istore (lv' := [(7, .int 0), (6, .int 0), (0, .ref b), (1, .ref x), (2, .ref mo), (3, .ref ou), (4, .ref od_), (5, .int 0)]) hx hb dL_law_687 hl (by decide) rfl (fun ls hl => ?_)
  refine lv_aload_n hx hb dL_law_689 rfl (lv_at hl 4 rfl) ?_
  have hPc := hP.sub (ws' := [(mo, .inr (19, [.int 0, .int 0, .int 0, .int 0, .int 0, .int 0, .int 0, .ref ti, .ref si, .ref lo, .ref lh, .ref lk, .ref sp, .ref st, .ref pa, .ref br, .ref sg, .int 0, .int 0, .int 0, .int 0, .int 0, .int 0, .long 0, .long 0, .long 0, .long 0, .int 0]))]) [1] rfl
  have hDc := hD.sub (ws' := [(mo, .inr (19, [.int 0, .int 0, .int 0, .int 0, .int 0, .int 0, .int 0, .ref ti, .ref si, .ref lo, .ref lh, .ref lk, .ref sp, .ref st, .ref pa, .ref br, .ref sg, .int 0, .int 0, .int 0, .int 0, .int 0, .int 0, .long 0, .long 0, .long 0, .long 0, .int 0]))]) [1] (by decide) rfl
  have hKc := hK.sub (tys' := []) [] rfl
  have hFc := va_free (wc := [(mo, .inr (19, [.int 0, .int 0, .int 0, .int 0, .int 0, .int 0, .int 0, .ref ti, .ref si, .ref lo, .ref lh, .ref lk, .ref sp, .ref st, .ref pa, .ref br, .ref sg, .int 0, .int 0, .int 0, .int 0, .int 0, .int 0, .long 0, .long 0, .long 0, .long 0, .int 0]))]) hD hS hA [1] rfl
  refine va_calli (va_runV (As := []) (rest := []) ⟨hx, hb, hml, hown, hts⟩ (k_m_thrown l dC dI z zK zV mo ti si lo lh lk sp st pa br sg 0 0 0 0 0 0 0 0 0 0 0 0 0 0 0 0 0 0 H.size) (cwV 0 hts hL_X15_thrown_100 rfl rfl rfl (by decide +kernel) ⟨Nat.le_of_ble_eq_true rfl, Nat.le_of_ble_eq_true rfl⟩) ⟨kP_blind, va_recv hKc hPc (ci := 19) (q0 := 0) rfl rfl, kP_go hPc hKc hDc hFc hM hS⟩ rfl rfl hl.1 rfl (lv_room (Nat.le_of_ble_eq_true rfl)) dL_law_690 ⟨Nat.le_of_ble_eq_true rfl, Nat.le_of_ble_eq_true rfl⟩) hS (fun q _ h => hFc q h) hFc (fun r3 u t H1 locs ht hvm hw hB hz1 hk1 hS => ?_)
  obtain ⟨hP, hD, hK⟩ := kJ (wr := [(ou, .inl (co, 1, .inr (.inl (vp_updL of_ 0 0))))]) (w1 := [(mo, .inr (19, [.int 0, .int 0, .int 0, .int 0, .int 0, .int 0, .int 0, .ref ti, .ref si, .ref lo, .ref lh, .ref lk, .ref sp, .ref st, .ref pa, .ref br, .ref sg, .int 0, .int 0, .int 0, .int 0, .int 0, .int 0, .long 0, .long 0, .long 0, .long 0, .int 0]))]) (t1 := []) hP hD hK [1] [0] rfl rfl (by decide) (by decide) hk1 hFc ht hvm hB
  generalize H1 = H at hP hS ⊢
  have hP : va_P (dC, dI) vwCl [(ou, .inl (co, 1, .inr (.inl (vp_updL of_ 0 0)))), (mo, .inr (19, [.int 0, .int 0, .int 0, .int 0, .int 0, .int 0, .int 0, .ref ti, .ref si, .ref lo, .ref lh, .ref lk, .ref sp, .ref st, .ref pa, .ref br, .ref sg, .int 0, .int 0, .int 0, .int 0, .int 0, .int 0, .long 0, .long 0, .long 0, .long 0, .int 0]))] H := hP
  have hD : va_D A [(ou, .inl (co, 1, .inr (.inl (vp_updL of_ 0 0)))), (mo, .inr (19, [.int 0, .int 0, .int 0, .int 0, .int 0, .int 0, .int 0, .ref ti, .ref si, .ref lo, .ref lh, .ref lk, .ref sp, .ref st, .ref pa, .ref br, .ref sg, .int 0, .int 0, .int 0, .int 0, .int 0, .int 0, .long 0, .long 0, .long 0, .long 0, .int 0]))] := hD
  have hK : va_K (dC, dI) vwCl [(cti, .int), (co, .long)] s := hK
  obtain rfl : 0 = r3 := hw
  refine lv_iload hx hb dL_law_693 (lv_at hl 1 rfl) ?_
  refine lv_icmp_eq (tgt := 700) hx hb dL_law_695 (by decide) (fun _ => ?_) (fun c_ => absurd (by decide +kernel) c_)
  refine lv_iload hx hb dL_law_700 (lv_at hl 1 rfl) ?_
  refine lv_if_ne (tgt := 717) hx hb dL_law_702 (by decide) (fun c_ => absurd (by decide +kernel) c_) (fun _ => ?_)
  refine lv_aload_n hx hb dL_law_705 rfl (lv_at hl 5 rfl) ?_
  refine lv_iconst (v := 0) hx hb dL_law_706 (by decide) ?_
  refine va_lald hx hb hK hP 0 1 rfl rfl (pk_in 0 1 (by decide) rfl) dL_law_707 ?_
  refine kc_v (y := .long 0) rfl ?_
  refine lv_iload hx hb dL_law_708 (lv_at hl 0 rfl) ?_
  refine lv_i2l (v := 0) hx hb dL_law_710 (by decide +kernel) ?_
  refine W.lcmp hx hb dL_law_711 ?_
  refine kc_i (y := 0) (by decide +kernel) ?_
  refine lv_if_eq (tgt := 717) hx hb dL_law_712 (by decide) (fun _ => ?_) (fun c_ => absurd (by decide +kernel) c_)
  refine lv_goto (tgt := 1684) hx hb dL_law_717 (by decide) ?_
  exact la_tail (dC := dC) (dI := dI) hst C0 hM hA hAl H locs hS ls (lv_sub hl [2, 7] rfl) (by omega) (by omega)
set_option maxHeartbeats 8000000 in
set_option maxRecDepth 100000 in
theorem la_tired1 {p : Program} {l : Launch} {e : Env} {s : State} {m : MethodId} {below : List Frame} {meth : Method} {c : Code} {dC : Nat → ClassId} {dI : Nat → Nat → Nat} {z zK zV : Nat → Nat} {b : Nat} {xs : Nat → Int32} {A : Nat → Prop} (hst : l.stackTraces = false) (C0 : lw_At p s m meth c b 4 xs) (hM : am z zK zV A s s.heap) (hA : ∀ q : Nat, s.heap.size ≤ q → A q) (hAl : ∀ q : Nat, A q → s.heap.size ≤ q) (sh : Nat) (rg : Nat) (dk : Nat) (w0 : Nat) (w1 : Nat) (ol : Nat) (hd : Nat) (lg : Nat) (pl : Nat) (pr : Nat) (x : Nat) (tl : Nat) (tw : Nat) (mo : Nat) (ti : Nat) (si : Nat) (lo : Nat) (lh : Nat) (lk : Nat) (sp : Nat) (st : Nat) (pa : Nat) (br : Nat) (sg : Nat) (cti : ClassId) (ou : Nat) (co : ClassId) (of_ : Nat → Int64) (od_ : Nat)  (hs1 : xs 1 = 1) (H : Heap) (locs : List Loc) (hK : va_K (dC, dI) vwCl [(cti, .int), (co, .long)] s) (hP : va_P (dC, dI) vwCl [(x, .inr (15, [.ref sh, .ref tl, .ref tw, .int 0])), (sh, .inr (13, [.ref rg, .ref dk, .ref hd, .ref lg, .ref pl, .ref pr, .int 0, .int 0, .int 0, .int 0, .int 0, .int 0, .int 0, .int 0, .int 0, .int 0, .int 0])), (dk, .inr (4, [.ref w0, .ref w1, .ref ol, .int 0, .int 0, .int 0, .int 0])), (w0, .inr (14, [.int 0, .int 0])), (w1, .inr (14, [.int 0, .int 0])), (mo, .inr (19, [.int 0, .int 0, .int 0, .int 0, .int 0, .int 0, .int 0, .ref ti, .ref si, .ref lo, .ref lh, .ref lk, .ref sp, .ref st, .ref pa, .ref br, .ref sg, .int 0, .int 0, .int 0, .int 0, .int 0, .int 0, .long 0, .long 0, .long 0, .long 0, .int 0])), (ti, .inl (cti, 2, .inl (fun _ => 0))), (ou, .inl (co, 1, .inr (.inl of_)))] H) (hD : va_D A [(x, .inr (15, [.ref sh, .ref tl, .ref tw, .int 0])), (sh, .inr (13, [.ref rg, .ref dk, .ref hd, .ref lg, .ref pl, .ref pr, .int 0, .int 0, .int 0, .int 0, .int 0, .int 0, .int 0, .int 0, .int 0, .int 0, .int 0])), (dk, .inr (4, [.ref w0, .ref w1, .ref ol, .int 0, .int 0, .int 0, .int 0])), (w0, .inr (14, [.int 0, .int 0])), (w1, .inr (14, [.int 0, .int 0])), (mo, .inr (19, [.int 0, .int 0, .int 0, .int 0, .int 0, .int 0, .int 0, .ref ti, .ref si, .ref lo, .ref lh, .ref lk, .ref sp, .ref st, .ref pa, .ref br, .ref sg, .int 0, .int 0, .int 0, .int 0, .int 0, .int 0, .long 0, .long 0, .long 0, .long 0, .int 0])), (ti, .inl (cti, 2, .inl (fun _ => 0))), (ou, .inl (co, 1, .inr (.inl of_)))]) (hS : va_S A s.heap H locs) (ls : Array Slot) (hl : lv_has ls 10 [(0, .ref b), (1, .ref x), (2, .ref mo), (3, .ref ou), (4, .ref od_), (5, .int 0)]) : W p l e room_1 s m #[Value.ref b] below meth c H locs 100 1400 (lw_Z below #[Value.ref b] s) (F0 m 664 ls []) := by
  obtain ⟨hx, hb, hr, hml, hown, hts, hX, hbl, hlocks, hgv⟩ := id C0
  have hbA : ¬ A b := fun h => absurd (hAl b h) (Nat.not_le.mpr hbl)
  refine lv_aload_n hx hb dL_law_664 rfl (lv_at hl 1 rfl) ?_
  refine lv_aload_n hx hb dL_law_665 rfl (lv_at hl 0 rfl) ?_
  refine lv_iload hx hb dL_law_666 (lv_at hl 5 rfl) ?_
  refine lv_iconst (v := 1) hx hb dL_law_668 (by decide) ?_
  refine lv_iadd hx hb dL_law_669 ?_
  refine kc_i (y := 1) (by decide +kernel) ?_
  refine va_sld hx hb hX hbl hbA hS (pk_in 1 4 (by decide) rfl) dL_law_670 ?_
  refine kc_i (y := 1) (hs1 : xs 1 = 1) ?_
  refine lv_aload_n hx hb dL_law_671 rfl (lv_at hl 3 rfl) ?_
  have hPc := hP.sub (ws' := [(x, .inr (15, [.ref sh, .ref tl, .ref tw, .int 0])), (sh, .inr (13, [.ref rg, .ref dk, .ref hd, .ref lg, .ref pl, .ref pr, .int 0, .int 0, .int 0, .int 0, .int 0, .int 0, .int 0, .int 0, .int 0, .int 0, .int 0])), (dk, .inr (4, [.ref w0, .ref w1, .ref ol, .int 0, .int 0, .int 0, .int 0])), (w0, .inr (14, [.int 0, .int 0])), (w1, .inr (14, [.int 0, .int 0])), (ou, .inl (co, 1, .inr (.inl of_)))]) [0, 1, 2, 3, 4, 7] rfl
  have hDc := hD.sub (ws' := [(x, .inr (15, [.ref sh, .ref tl, .ref tw, .int 0])), (sh, .inr (13, [.ref rg, .ref dk, .ref hd, .ref lg, .ref pl, .ref pr, .int 0, .int 0, .int 0, .int 0, .int 0, .int 0, .int 0, .int 0, .int 0, .int 0, .int 0])), (dk, .inr (4, [.ref w0, .ref w1, .ref ol, .int 0, .int 0, .int 0, .int 0])), (w0, .inr (14, [.int 0, .int 0])), (w1, .inr (14, [.int 0, .int 0])), (ou, .inl (co, 1, .inr (.inl of_)))]) [0, 1, 2, 3, 4, 7] (by decide) rfl
  have hKc := hK.sub (tys' := [(co, .long)]) [1] rfl
  have hFc := va_free (wc := [(x, .inr (15, [.ref sh, .ref tl, .ref tw, .int 0])), (sh, .inr (13, [.ref rg, .ref dk, .ref hd, .ref lg, .ref pl, .ref pr, .int 0, .int 0, .int 0, .int 0, .int 0, .int 0, .int 0, .int 0, .int 0, .int 0, .int 0])), (dk, .inr (4, [.ref w0, .ref w1, .ref ol, .int 0, .int 0, .int 0, .int 0])), (w0, .inr (14, [.int 0, .int 0])), (w1, .inr (14, [.int 0, .int 0])), (ou, .inl (co, 1, .inr (.inl of_)))]) hD hS hA [0, 1, 2, 3, 4, 7] rfl
  refine va_calli (vx_runSW (As := [.ref x, .int 1, .ref ou]) (rest := []) ⟨hx, hb, hml, hown, hts⟩ (k_l_tired1 l dC dI z zK zV sh rg dk w0 w1 ol hd lg pl pr x tl tw ou co of_ H.size) (vx_cwSW 3 hts hL_L_tired_133 rfl rfl rfl (by decide +kernel) ⟨Nat.le_of_ble_eq_true rfl, Nat.le_of_ble_eq_true rfl⟩) ⟨kP_blind, kP_go hPc hKc hDc hFc hM hS⟩ rfl rfl hl.1 rfl (lv_room (Nat.le_of_ble_eq_true rfl)) dL_law_672 ⟨Nat.le_of_ble_eq_true rfl, Nat.le_of_ble_eq_true rfl⟩) hS (fun q _ h => hFc q h) hFc (fun r1 u t H1 locs ht hvm hw hB hz1 hk1 hS => ?_)
  obtain ⟨hP, hD, hK⟩ := kJ (wr := [(mo, .inr (19, [.int 0, .int 0, .int 0, .int 0, .int 0, .int 0, .int 0, .ref ti, .ref si, .ref lo, .ref lh, .ref lk, .ref sp, .ref st, .ref pa, .ref br, .ref sg, .int 0, .int 0, .int 0, .int 0, .int 0, .int 0, .long 0, .long 0, .long 0, .long 0, .int 0])), (ti, .inl (cti, 2, .inl (fun _ => 0)))]) (w1 := [(ou, .inl (co, 1, .inr (.inl (vp_updL of_ 0 0))))]) (t1 := []) hP hD hK [0, 1, 2, 3, 4, 7] [5, 6] rfl rfl (by decide) (by decide) hk1 hFc ht hvm hB
  generalize H1 = H at hP hS ⊢
  have hP : va_P (dC, dI) vwCl [(mo, .inr (19, [.int 0, .int 0, .int 0, .int 0, .int 0, .int 0, .int 0, .ref ti, .ref si, .ref lo, .ref lh, .ref lk, .ref sp, .ref st, .ref pa, .ref br, .ref sg, .int 0, .int 0, .int 0, .int 0, .int 0, .int 0, .long 0, .long 0, .long 0, .long 0, .int 0])), (ti, .inl (cti, 2, .inl (fun _ => 0))), (ou, .inl (co, 1, .inr (.inl (vp_updL of_ 0 0))))] H := hP
  have hD : va_D A [(mo, .inr (19, [.int 0, .int 0, .int 0, .int 0, .int 0, .int 0, .int 0, .ref ti, .ref si, .ref lo, .ref lh, .ref lk, .ref sp, .ref st, .ref pa, .ref br, .ref sg, .int 0, .int 0, .int 0, .int 0, .int 0, .int 0, .long 0, .long 0, .long 0, .long 0, .int 0])), (ti, .inl (cti, 2, .inl (fun _ => 0))), (ou, .inl (co, 1, .inr (.inl (vp_updL of_ 0 0))))] := hD
  have hK : va_K (dC, dI) vwCl [(cti, .int), (co, .long)] s := hK
  obtain rfl : 0 = r1 := hw
  refine lv_istore (lv' := [(6, .int 0), (0, .ref b), (1, .ref x), (2, .ref mo), (3, .ref ou), (4, .ref od_), (5, .int 0)]) hx hb dL_law_675 hl (by decide) rfl (fun ls hl => ?_)
  refine lv_aload_n hx hb dL_law_677 rfl (lv_at hl 3 rfl) ?_
  refine lv_aload_n hx hb dL_law_678 rfl (lv_at hl 1 rfl) ?_
  refine lv_iload hx hb dL_law_679 (lv_at hl 6 rfl) ?_
  refine lv_iconst (v := 1) hx hb dL_law_681 (by decide) ?_
  refine lv_iadd hx hb dL_law_682 ?_
  refine kc_i (y := 1) (by decide +kernel) ?_
  refine va_sld hx hb hX hbl hbA hS (pk_in 1 4 (by decide) rfl) dL_law_683 ?_
  refine kc_i (y := 1) (hs1 : xs 1 = 1) ?_
  have hPc := hP.sub (ws' := [(mo, .inr (19, [.int 0, .int 0, .int 0, .int 0, .int 0, .int 0, .int 0, .ref ti, .ref si, .ref lo, .ref lh, .ref lk, .ref sp, .ref st, .ref pa, .ref br, .ref sg, .int 0, .int 0, .int 0, .int 0, .int 0, .int 0, .long 0, .long 0, .long 0, .long 0, .int 0])), (ti, .inl (cti, 2, .inl (fun _ => 0)))]) [0, 1] rfl
  have hDc := hD.sub (ws' := [(mo, .inr (19, [.int 0, .int 0, .int 0, .int 0, .int 0, .int 0, .int 0, .ref ti, .ref si, .ref lo, .ref lh, .ref lk, .ref sp, .ref st, .ref pa, .ref br, .ref sg, .int 0, .int 0, .int 0, .int 0, .int 0, .int 0, .long 0, .long 0, .long 0, .long 0, .int 0])), (ti, .inl (cti, 2, .inl (fun _ => 0)))]) [0, 1] (by decide) rfl
  have hKc := hK.sub (tys' := [(cti, .int)]) [0] rfl
  have hFc := va_free (wc := [(mo, .inr (19, [.int 0, .int 0, .int 0, .int 0, .int 0, .int 0, .int 0, .ref ti, .ref si, .ref lo, .ref lh, .ref lk, .ref sp, .ref st, .ref pa, .ref br, .ref sg, .int 0, .int 0, .int 0, .int 0, .int 0, .int 0, .long 0, .long 0, .long 0, .long 0, .int 0])), (ti, .inl (cti, 2, .inl (fun _ => 0)))]) hD hS hA [0, 1] rfl
  refine va_calli (va_runV (As := [.int 1]) (rest := []) ⟨hx, hb, hml, hown, hts⟩ (k_m_tired1 l dC dI z zK zV mo ti si lo lh lk sp st pa br sg cti 0 H.size) (cwV 1 hts hL_X15_tired_135 rfl rfl rfl (by decide +kernel) ⟨Nat.le_of_ble_eq_true rfl, Nat.le_of_ble_eq_true rfl⟩) ⟨kP_blind, va_recv hKc hPc (ci := 19) (q0 := 0) rfl rfl, kP_go hPc hKc hDc hFc hM hS⟩ rfl rfl hl.1 rfl (lv_room (Nat.le_of_ble_eq_true rfl)) dL_law_684 ⟨Nat.le_of_ble_eq_true rfl, Nat.le_of_ble_eq_true rfl⟩) hS (fun q _ h => hFc q h) hFc (fun r2 u t H1 locs ht hvm hw hB hz1 hk1 hS => ?_)
  obtain ⟨hP, hD, hK⟩ := kJ (wr := [(ou, .inl (co, 1, .inr (.inl (vp_updL of_ 0 0))))]) (w1 := [(mo, .inr (19, [.int 0, .int 0, .int 0, .int 0, .int 0, .int 0, .int 0, .ref ti, .ref si, .ref lo, .ref lh, .ref lk, .ref sp, .ref st, .ref pa, .ref br, .ref sg, .int 0, .int 0, .int 0, .int 0, .int 0, .int 0, .long 0, .long 0, .long 0, .long 0, .int 0]))]) (t1 := []) hP hD hK [0, 1] [2] rfl rfl (by decide) (by decide) hk1 hFc ht hvm hB
  generalize H1 = H at hP hS ⊢
  have hP : va_P (dC, dI) vwCl [(ou, .inl (co, 1, .inr (.inl (vp_updL of_ 0 0)))), (mo, .inr (19, [.int 0, .int 0, .int 0, .int 0, .int 0, .int 0, .int 0, .ref ti, .ref si, .ref lo, .ref lh, .ref lk, .ref sp, .ref st, .ref pa, .ref br, .ref sg, .int 0, .int 0, .int 0, .int 0, .int 0, .int 0, .long 0, .long 0, .long 0, .long 0, .int 0]))] H := hP
  have hD : va_D A [(ou, .inl (co, 1, .inr (.inl (vp_updL of_ 0 0)))), (mo, .inr (19, [.int 0, .int 0, .int 0, .int 0, .int 0, .int 0, .int 0, .ref ti, .ref si, .ref lo, .ref lh, .ref lk, .ref sp, .ref st, .ref pa, .ref br, .ref sg, .int 0, .int 0, .int 0, .int 0, .int 0, .int 0, .long 0, .long 0, .long 0, .long 0, .int 0]))] := hD
  have hK : va_K (dC, dI) vwCl [(cti, .int), (co, .long)] s := hK
  obtain rfl : 0 = r2 := hw
  refine lv_istore (lv' := [(7, .int 0), (6, .int 0), (0, .ref b), (1, .ref x), (2, .ref mo), (3, .ref ou), (4, .ref od_), (5, .int 0)]) hx hb dL_law_687 hl (by decide) rfl (fun ls hl => ?_)
  refine lv_aload_n hx hb dL_law_689 rfl (lv_at hl 4 rfl) ?_
  have hPc := hP.sub (ws' := [(mo, .inr (19, [.int 0, .int 0, .int 0, .int 0, .int 0, .int 0, .int 0, .ref ti, .ref si, .ref lo, .ref lh, .ref lk, .ref sp, .ref st, .ref pa, .ref br, .ref sg, .int 0, .int 0, .int 0, .int 0, .int 0, .int 0, .long 0, .long 0, .long 0, .long 0, .int 0]))]) [1] rfl
  have hDc := hD.sub (ws' := [(mo, .inr (19, [.int 0, .int 0, .int 0, .int 0, .int 0, .int 0, .int 0, .ref ti, .ref si, .ref lo, .ref lh, .ref lk, .ref sp, .ref st, .ref pa, .ref br, .ref sg, .int 0, .int 0, .int 0, .int 0, .int 0, .int 0, .long 0, .long 0, .long 0, .long 0, .int 0]))]) [1] (by decide) rfl
  have hKc := hK.sub (tys' := []) [] rfl
  have hFc := va_free (wc := [(mo, .inr (19, [.int 0, .int 0, .int 0, .int 0, .int 0, .int 0, .int 0, .ref ti, .ref si, .ref lo, .ref lh, .ref lk, .ref sp, .ref st, .ref pa, .ref br, .ref sg, .int 0, .int 0, .int 0, .int 0, .int 0, .int 0, .long 0, .long 0, .long 0, .long 0, .int 0]))]) hD hS hA [1] rfl
  refine va_calli (va_runV (As := []) (rest := []) ⟨hx, hb, hml, hown, hts⟩ (k_m_thrown l dC dI z zK zV mo ti si lo lh lk sp st pa br sg 0 0 0 0 0 0 0 0 0 0 0 0 0 0 0 0 0 0 H.size) (cwV 0 hts hL_X15_thrown_100 rfl rfl rfl (by decide +kernel) ⟨Nat.le_of_ble_eq_true rfl, Nat.le_of_ble_eq_true rfl⟩) ⟨kP_blind, va_recv hKc hPc (ci := 19) (q0 := 0) rfl rfl, kP_go hPc hKc hDc hFc hM hS⟩ rfl rfl hl.1 rfl (lv_room (Nat.le_of_ble_eq_true rfl)) dL_law_690 ⟨Nat.le_of_ble_eq_true rfl, Nat.le_of_ble_eq_true rfl⟩) hS (fun q _ h => hFc q h) hFc (fun r3 u t H1 locs ht hvm hw hB hz1 hk1 hS => ?_)
  obtain ⟨hP, hD, hK⟩ := kJ (wr := [(ou, .inl (co, 1, .inr (.inl (vp_updL of_ 0 0))))]) (w1 := [(mo, .inr (19, [.int 0, .int 0, .int 0, .int 0, .int 0, .int 0, .int 0, .ref ti, .ref si, .ref lo, .ref lh, .ref lk, .ref sp, .ref st, .ref pa, .ref br, .ref sg, .int 0, .int 0, .int 0, .int 0, .int 0, .int 0, .long 0, .long 0, .long 0, .long 0, .int 0]))]) (t1 := []) hP hD hK [1] [0] rfl rfl (by decide) (by decide) hk1 hFc ht hvm hB
  generalize H1 = H at hP hS ⊢
  have hP : va_P (dC, dI) vwCl [(ou, .inl (co, 1, .inr (.inl (vp_updL of_ 0 0)))), (mo, .inr (19, [.int 0, .int 0, .int 0, .int 0, .int 0, .int 0, .int 0, .ref ti, .ref si, .ref lo, .ref lh, .ref lk, .ref sp, .ref st, .ref pa, .ref br, .ref sg, .int 0, .int 0, .int 0, .int 0, .int 0, .int 0, .long 0, .long 0, .long 0, .long 0, .int 0]))] H := hP
  have hD : va_D A [(ou, .inl (co, 1, .inr (.inl (vp_updL of_ 0 0)))), (mo, .inr (19, [.int 0, .int 0, .int 0, .int 0, .int 0, .int 0, .int 0, .ref ti, .ref si, .ref lo, .ref lh, .ref lk, .ref sp, .ref st, .ref pa, .ref br, .ref sg, .int 0, .int 0, .int 0, .int 0, .int 0, .int 0, .long 0, .long 0, .long 0, .long 0, .int 0]))] := hD
  have hK : va_K (dC, dI) vwCl [(cti, .int), (co, .long)] s := hK
  obtain rfl : 0 = r3 := hw
  refine lv_iload hx hb dL_law_693 (lv_at hl 1 rfl) ?_
  refine lv_icmp_eq (tgt := 700) hx hb dL_law_695 (by decide) (fun _ => ?_) (fun c_ => absurd (by decide +kernel) c_)
  refine lv_iload hx hb dL_law_700 (lv_at hl 1 rfl) ?_
  refine lv_if_ne (tgt := 717) hx hb dL_law_702 (by decide) (fun c_ => absurd (by decide +kernel) c_) (fun _ => ?_)
  refine lv_aload_n hx hb dL_law_705 rfl (lv_at hl 5 rfl) ?_
  refine lv_iconst (v := 0) hx hb dL_law_706 (by decide) ?_
  refine va_lald hx hb hK hP 0 1 rfl rfl (pk_in 0 1 (by decide) rfl) dL_law_707 ?_
  refine kc_v (y := .long 0) rfl ?_
  refine lv_iload hx hb dL_law_708 (lv_at hl 0 rfl) ?_
  refine lv_i2l (v := 0) hx hb dL_law_710 (by decide +kernel) ?_
  refine W.lcmp hx hb dL_law_711 ?_
  refine kc_i (y := 0) (by decide +kernel) ?_
  refine lv_if_eq (tgt := 717) hx hb dL_law_712 (by decide) (fun _ => ?_) (fun c_ => absurd (by decide +kernel) c_)
  refine lv_goto (tgt := 1684) hx hb dL_law_717 (by decide) ?_
  exact la_tail (dC := dC) (dI := dI) hst C0 hM hA hAl H locs hS ls (lv_sub hl [2, 7] rfl) (by omega) (by omega)
set_option maxHeartbeats 8000000 in
set_option maxRecDepth 100000 in
theorem la_tired_bad {p : Program} {l : Launch} {e : Env} {s : State} {m : MethodId} {below : List Frame} {meth : Method} {c : Code} {dC : Nat → ClassId} {dI : Nat → Nat → Nat} {z zK zV : Nat → Nat} {b : Nat} {xs : Nat → Int32} {A : Nat → Prop} (hst : l.stackTraces = false) (C0 : lw_At p s m meth c b 4 xs) (hM : am z zK zV A s s.heap) (hA : ∀ q : Nat, s.heap.size ≤ q → A q) (hAl : ∀ q : Nat, A q → s.heap.size ≤ q) (sh : Nat) (rg : Nat) (dk : Nat) (w0 : Nat) (w1 : Nat) (ol : Nat) (hd : Nat) (lg : Nat) (pl : Nat) (pr : Nat) (x : Nat) (tl : Nat) (tw : Nat) (p0 : Int32) (mo : Nat) (ti : Nat) (si : Nat) (lo : Nat) (lh : Nat) (lk : Nat) (sp : Nat) (st : Nat) (pa : Nat) (br : Nat) (sg : Nat) (ou : Nat) (co : ClassId) (of_ : Nat → Int64) (od_ : Nat) (hb0 : ¬ ((0 : Int32) ≤ p0 ∧ p0 ≤ 1)) (hs1 : xs 1 = p0) (H : Heap) (locs : List Loc) (hK : va_K (dC, dI) vwCl [(co, .long)] s) (hP : va_P (dC, dI) vwCl [(x, .inr (15, [.ref sh, .ref tl, .ref tw, .int 0])), (sh, .inr (13, [.ref rg, .ref dk, .ref hd, .ref lg, .ref pl, .ref pr, .int 0, .int 0, .int 0, .int 0, .int 0, .int 0, .int 0, .int 0, .int 0, .int 0, .int 0])), (dk, .inr (4, [.ref w0, .ref w1, .ref ol, .int 0, .int 0, .int 0, .int 0])), (w0, .inr (14, [.int 0, .int 0])), (w1, .inr (14, [.int 0, .int 0])), (mo, .inr (19, [.int 0, .int 0, .int 0, .int 0, .int 0, .int 0, .int 0, .ref ti, .ref si, .ref lo, .ref lh, .ref lk, .ref sp, .ref st, .ref pa, .ref br, .ref sg, .int 0, .int 0, .int 0, .int 0, .int 0, .int 0, .long 0, .long 0, .long 0, .long 0, .int 0])), (ou, .inl (co, 1, .inr (.inl of_)))] H) (hD : va_D A [(x, .inr (15, [.ref sh, .ref tl, .ref tw, .int 0])), (sh, .inr (13, [.ref rg, .ref dk, .ref hd, .ref lg, .ref pl, .ref pr, .int 0, .int 0, .int 0, .int 0, .int 0, .int 0, .int 0, .int 0, .int 0, .int 0, .int 0])), (dk, .inr (4, [.ref w0, .ref w1, .ref ol, .int 0, .int 0, .int 0, .int 0])), (w0, .inr (14, [.int 0, .int 0])), (w1, .inr (14, [.int 0, .int 0])), (mo, .inr (19, [.int 0, .int 0, .int 0, .int 0, .int 0, .int 0, .int 0, .ref ti, .ref si, .ref lo, .ref lh, .ref lk, .ref sp, .ref st, .ref pa, .ref br, .ref sg, .int 0, .int 0, .int 0, .int 0, .int 0, .int 0, .long 0, .long 0, .long 0, .long 0, .int 0])), (ou, .inl (co, 1, .inr (.inl of_)))]) (hS : va_S A s.heap H locs) (ls : Array Slot) (hl : lv_has ls 10 [(0, .ref b), (1, .ref x), (2, .ref mo), (3, .ref ou), (4, .ref od_), (5, .int 0)]) : W p l e room_1 s m #[Value.ref b] below meth c H locs 100 1400 (lw_Z below #[Value.ref b] s) (F0 m 664 ls []) := by
  obtain ⟨hx, hb, hr, hml, hown, hts, hX, hbl, hlocks, hgv⟩ := id C0
  have hbA : ¬ A b := fun h => absurd (hAl b h) (Nat.not_le.mpr hbl)
  refine lv_aload_n hx hb dL_law_664 rfl (lv_at hl 1 rfl) ?_
  refine lv_aload_n hx hb dL_law_665 rfl (lv_at hl 0 rfl) ?_
  refine lv_iload hx hb dL_law_666 (lv_at hl 5 rfl) ?_
  refine lv_iconst (v := 1) hx hb dL_law_668 (by decide) ?_
  refine lv_iadd hx hb dL_law_669 ?_
  refine kc_i (y := 1) (by decide +kernel) ?_
  refine va_sld hx hb hX hbl hbA hS (pk_in 1 4 (by decide) rfl) dL_law_670 ?_
  refine kc_i (y := p0) (hs1 : xs 1 = p0) ?_
  refine lv_aload_n hx hb dL_law_671 rfl (lv_at hl 3 rfl) ?_
  have hPc := hP.sub (ws' := [(x, .inr (15, [.ref sh, .ref tl, .ref tw, .int 0])), (sh, .inr (13, [.ref rg, .ref dk, .ref hd, .ref lg, .ref pl, .ref pr, .int 0, .int 0, .int 0, .int 0, .int 0, .int 0, .int 0, .int 0, .int 0, .int 0, .int 0])), (dk, .inr (4, [.ref w0, .ref w1, .ref ol, .int 0, .int 0, .int 0, .int 0])), (w0, .inr (14, [.int 0, .int 0])), (w1, .inr (14, [.int 0, .int 0])), (ou, .inl (co, 1, .inr (.inl of_)))]) [0, 1, 2, 3, 4, 6] rfl
  have hDc := hD.sub (ws' := [(x, .inr (15, [.ref sh, .ref tl, .ref tw, .int 0])), (sh, .inr (13, [.ref rg, .ref dk, .ref hd, .ref lg, .ref pl, .ref pr, .int 0, .int 0, .int 0, .int 0, .int 0, .int 0, .int 0, .int 0, .int 0, .int 0, .int 0])), (dk, .inr (4, [.ref w0, .ref w1, .ref ol, .int 0, .int 0, .int 0, .int 0])), (w0, .inr (14, [.int 0, .int 0])), (w1, .inr (14, [.int 0, .int 0])), (ou, .inl (co, 1, .inr (.inl of_)))]) [0, 1, 2, 3, 4, 6] (by decide) rfl
  have hKc := hK.sub (tys' := [(co, .long)]) [0] rfl
  have hFc := va_free (wc := [(x, .inr (15, [.ref sh, .ref tl, .ref tw, .int 0])), (sh, .inr (13, [.ref rg, .ref dk, .ref hd, .ref lg, .ref pl, .ref pr, .int 0, .int 0, .int 0, .int 0, .int 0, .int 0, .int 0, .int 0, .int 0, .int 0, .int 0])), (dk, .inr (4, [.ref w0, .ref w1, .ref ol, .int 0, .int 0, .int 0, .int 0])), (w0, .inr (14, [.int 0, .int 0])), (w1, .inr (14, [.int 0, .int 0])), (ou, .inl (co, 1, .inr (.inl of_)))]) hD hS hA [0, 1, 2, 3, 4, 6] rfl
  refine va_calli (vx_runSW (As := [.ref x, .int p0, .ref ou]) (rest := []) ⟨hx, hb, hml, hown, hts⟩ (k_l_tired_bad l dC dI z zK zV sh rg dk w0 w1 ol hd lg pl pr x tl tw p0 ou co of_ H.size hst (hb0)) (vx_cwSW 3 hts hL_L_tired_133 rfl rfl rfl (by decide +kernel) ⟨Nat.le_of_ble_eq_true rfl, Nat.le_of_ble_eq_true rfl⟩) ⟨kP_blind, kP_go hPc hKc hDc hFc hM hS⟩ rfl rfl hl.1 rfl (lv_room (Nat.le_of_ble_eq_true rfl)) dL_law_672 ⟨Nat.le_of_ble_eq_true rfl, Nat.le_of_ble_eq_true rfl⟩) hS (fun q _ h => hFc q h) hFc (fun r1 u t H1 locs ht hvm hw hB hz1 hk1 hS => ?_)
  obtain ⟨hP, hD, hK⟩ := kJ (wr := [(mo, .inr (19, [.int 0, .int 0, .int 0, .int 0, .int 0, .int 0, .int 0, .ref ti, .ref si, .ref lo, .ref lh, .ref lk, .ref sp, .ref st, .ref pa, .ref br, .ref sg, .int 0, .int 0, .int 0, .int 0, .int 0, .int 0, .long 0, .long 0, .long 0, .long 0, .int 0]))]) (w1 := []) (t1 := []) hP hD hK [0, 1, 2, 3, 4, 6] [5] rfl rfl (by decide) (by decide) hk1 hFc ht hvm hB
  generalize H1 = H at hP hS ⊢
  have hP : va_P (dC, dI) vwCl [(mo, .inr (19, [.int 0, .int 0, .int 0, .int 0, .int 0, .int 0, .int 0, .ref ti, .ref si, .ref lo, .ref lh, .ref lk, .ref sp, .ref st, .ref pa, .ref br, .ref sg, .int 0, .int 0, .int 0, .int 0, .int 0, .int 0, .long 0, .long 0, .long 0, .long 0, .int 0]))] H := hP
  have hD : va_D A [(mo, .inr (19, [.int 0, .int 0, .int 0, .int 0, .int 0, .int 0, .int 0, .ref ti, .ref si, .ref lo, .ref lh, .ref lk, .ref sp, .ref st, .ref pa, .ref br, .ref sg, .int 0, .int 0, .int 0, .int 0, .int 0, .int 0, .long 0, .long 0, .long 0, .long 0, .int 0]))] := hD
  have hK : va_K (dC, dI) vwCl [(co, .long)] s := hK
  obtain rfl : 1 = r1 := hw
  refine lv_istore (lv' := [(6, .int 1), (0, .ref b), (1, .ref x), (2, .ref mo), (3, .ref ou), (4, .ref od_), (5, .int 0)]) hx hb dL_law_675 hl (by decide) rfl (fun ls hl => ?_)
  refine lv_aload_n hx hb dL_law_677 rfl (lv_at hl 3 rfl) ?_
  refine lv_aload_n hx hb dL_law_678 rfl (lv_at hl 1 rfl) ?_
  refine lv_iload hx hb dL_law_679 (lv_at hl 6 rfl) ?_
  refine lv_iconst (v := 1) hx hb dL_law_681 (by decide) ?_
  refine lv_iadd hx hb dL_law_682 ?_
  refine kc_i (y := 1) (by decide +kernel) ?_
  refine va_sld hx hb hX hbl hbA hS (pk_in 1 4 (by decide) rfl) dL_law_683 ?_
  refine kc_i (y := p0) (hs1 : xs 1 = p0) ?_
  have hPc := hP.sub (ws' := [(mo, .inr (19, [.int 0, .int 0, .int 0, .int 0, .int 0, .int 0, .int 0, .ref ti, .ref si, .ref lo, .ref lh, .ref lk, .ref sp, .ref st, .ref pa, .ref br, .ref sg, .int 0, .int 0, .int 0, .int 0, .int 0, .int 0, .long 0, .long 0, .long 0, .long 0, .int 0]))]) [0] rfl
  have hDc := hD.sub (ws' := [(mo, .inr (19, [.int 0, .int 0, .int 0, .int 0, .int 0, .int 0, .int 0, .ref ti, .ref si, .ref lo, .ref lh, .ref lk, .ref sp, .ref st, .ref pa, .ref br, .ref sg, .int 0, .int 0, .int 0, .int 0, .int 0, .int 0, .long 0, .long 0, .long 0, .long 0, .int 0]))]) [0] (by decide) rfl
  have hKc := hK.sub (tys' := []) [] rfl
  have hFc := va_free (wc := [(mo, .inr (19, [.int 0, .int 0, .int 0, .int 0, .int 0, .int 0, .int 0, .ref ti, .ref si, .ref lo, .ref lh, .ref lk, .ref sp, .ref st, .ref pa, .ref br, .ref sg, .int 0, .int 0, .int 0, .int 0, .int 0, .int 0, .long 0, .long 0, .long 0, .long 0, .int 0]))]) hD hS hA [0] rfl
  refine va_calli (va_runV (As := [.int p0]) (rest := []) ⟨hx, hb, hml, hown, hts⟩ (k_m_tired_bad l dC dI z zK zV p0 mo ti si lo lh lk sp st pa br sg 0 H.size (hb0)) (cwV 1 hts hL_X15_tired_135 rfl rfl rfl (by decide +kernel) ⟨Nat.le_of_ble_eq_true rfl, Nat.le_of_ble_eq_true rfl⟩) ⟨kP_blind, va_recv hKc hPc (ci := 19) (q0 := 0) rfl rfl, kP_go hPc hKc hDc hFc hM hS⟩ rfl rfl hl.1 rfl (lv_room (Nat.le_of_ble_eq_true rfl)) dL_law_684 ⟨Nat.le_of_ble_eq_true rfl, Nat.le_of_ble_eq_true rfl⟩) hS (fun q _ h => hFc q h) hFc (fun r2 u t H1 locs ht hvm hw hB hz1 hk1 hS => ?_)
  obtain ⟨hP, hD, hK⟩ := kJ (wr := []) (w1 := [(mo, .inr (19, [.int 0, .int 0, .int 0, .int 0, .int 0, .int 0, .int 0, .ref ti, .ref si, .ref lo, .ref lh, .ref lk, .ref sp, .ref st, .ref pa, .ref br, .ref sg, .int 0, .int 0, .int 0, .int 0, .int 0, .int 0, .long 0, .long 0, .long 0, .long 0, .int 1]))]) (t1 := []) hP hD hK [0] [] rfl rfl (by decide) (by decide) hk1 hFc ht hvm hB
  generalize H1 = H at hP hS ⊢
  have hP : va_P (dC, dI) vwCl [(mo, .inr (19, [.int 0, .int 0, .int 0, .int 0, .int 0, .int 0, .int 0, .ref ti, .ref si, .ref lo, .ref lh, .ref lk, .ref sp, .ref st, .ref pa, .ref br, .ref sg, .int 0, .int 0, .int 0, .int 0, .int 0, .int 0, .long 0, .long 0, .long 0, .long 0, .int 1]))] H := hP
  have hD : va_D A [(mo, .inr (19, [.int 0, .int 0, .int 0, .int 0, .int 0, .int 0, .int 0, .ref ti, .ref si, .ref lo, .ref lh, .ref lk, .ref sp, .ref st, .ref pa, .ref br, .ref sg, .int 0, .int 0, .int 0, .int 0, .int 0, .int 0, .long 0, .long 0, .long 0, .long 0, .int 1]))] := hD
  have hK : va_K (dC, dI) vwCl [(co, .long)] s := hK
  obtain rfl : (-1) = r2 := hw
  refine lv_istore (lv' := [(7, .int (-1)), (6, .int 1), (0, .ref b), (1, .ref x), (2, .ref mo), (3, .ref ou), (4, .ref od_), (5, .int 0)]) hx hb dL_law_687 hl (by decide) rfl (fun ls hl => ?_)
  refine lv_aload_n hx hb dL_law_689 rfl (lv_at hl 4 rfl) ?_
  have hPc := hP.sub (ws' := [(mo, .inr (19, [.int 0, .int 0, .int 0, .int 0, .int 0, .int 0, .int 0, .ref ti, .ref si, .ref lo, .ref lh, .ref lk, .ref sp, .ref st, .ref pa, .ref br, .ref sg, .int 0, .int 0, .int 0, .int 0, .int 0, .int 0, .long 0, .long 0, .long 0, .long 0, .int 1]))]) [0] rfl
  have hDc := hD.sub (ws' := [(mo, .inr (19, [.int 0, .int 0, .int 0, .int 0, .int 0, .int 0, .int 0, .ref ti, .ref si, .ref lo, .ref lh, .ref lk, .ref sp, .ref st, .ref pa, .ref br, .ref sg, .int 0, .int 0, .int 0, .int 0, .int 0, .int 0, .long 0, .long 0, .long 0, .long 0, .int 1]))]) [0] (by decide) rfl
  have hKc := hK.sub (tys' := []) [] rfl
  have hFc := va_free (wc := [(mo, .inr (19, [.int 0, .int 0, .int 0, .int 0, .int 0, .int 0, .int 0, .ref ti, .ref si, .ref lo, .ref lh, .ref lk, .ref sp, .ref st, .ref pa, .ref br, .ref sg, .int 0, .int 0, .int 0, .int 0, .int 0, .int 0, .long 0, .long 0, .long 0, .long 0, .int 1]))]) hD hS hA [0] rfl
  refine va_calli (va_runV (As := []) (rest := []) ⟨hx, hb, hml, hown, hts⟩ (k_m_thrown l dC dI z zK zV mo ti si lo lh lk sp st pa br sg 0 0 0 0 0 0 0 0 0 0 0 0 0 0 0 0 0 1 H.size) (cwV 0 hts hL_X15_thrown_100 rfl rfl rfl (by decide +kernel) ⟨Nat.le_of_ble_eq_true rfl, Nat.le_of_ble_eq_true rfl⟩) ⟨kP_blind, va_recv hKc hPc (ci := 19) (q0 := 0) rfl rfl, kP_go hPc hKc hDc hFc hM hS⟩ rfl rfl hl.1 rfl (lv_room (Nat.le_of_ble_eq_true rfl)) dL_law_690 ⟨Nat.le_of_ble_eq_true rfl, Nat.le_of_ble_eq_true rfl⟩) hS (fun q _ h => hFc q h) hFc (fun r3 u t H1 locs ht hvm hw hB hz1 hk1 hS => ?_)
  obtain ⟨hP, hD, hK⟩ := kJ (wr := []) (w1 := [(mo, .inr (19, [.int 0, .int 0, .int 0, .int 0, .int 0, .int 0, .int 0, .ref ti, .ref si, .ref lo, .ref lh, .ref lk, .ref sp, .ref st, .ref pa, .ref br, .ref sg, .int 0, .int 0, .int 0, .int 0, .int 0, .int 0, .long 0, .long 0, .long 0, .long 0, .int 1]))]) (t1 := []) hP hD hK [0] [] rfl rfl (by decide) (by decide) hk1 hFc ht hvm hB
  generalize H1 = H at hP hS ⊢
  have hP : va_P (dC, dI) vwCl [(mo, .inr (19, [.int 0, .int 0, .int 0, .int 0, .int 0, .int 0, .int 0, .ref ti, .ref si, .ref lo, .ref lh, .ref lk, .ref sp, .ref st, .ref pa, .ref br, .ref sg, .int 0, .int 0, .int 0, .int 0, .int 0, .int 0, .long 0, .long 0, .long 0, .long 0, .int 1]))] H := hP
  have hD : va_D A [(mo, .inr (19, [.int 0, .int 0, .int 0, .int 0, .int 0, .int 0, .int 0, .ref ti, .ref si, .ref lo, .ref lh, .ref lk, .ref sp, .ref st, .ref pa, .ref br, .ref sg, .int 0, .int 0, .int 0, .int 0, .int 0, .int 0, .long 0, .long 0, .long 0, .long 0, .int 1]))] := hD
  have hK : va_K (dC, dI) vwCl [(co, .long)] s := hK
  obtain rfl : 1 = r3 := hw
  refine lv_iload hx hb dL_law_693 (lv_at hl 1 rfl) ?_
  refine lv_icmp_eq (tgt := 700) hx hb dL_law_695 (by decide) (fun _ => ?_) (fun c_ => absurd (by decide +kernel) c_)
  refine lv_iload hx hb dL_law_700 (lv_at hl 1 rfl) ?_
  refine lv_if_ne (tgt := 717) hx hb dL_law_702 (by decide) (fun _ => ?_) (fun c_ => absurd c_ (by decide +kernel))
  refine lv_goto (tgt := 1684) hx hb dL_law_717 (by decide) ?_
  exact la_tail (dC := dC) (dI := dI) hst C0 hM hA hAl H locs hS ls (lv_sub hl [2, 7] rfl) (by omega) (by omega)
set_option maxHeartbeats 8000000 in
set_option maxRecDepth 100000 in
theorem la_sick0 {p : Program} {l : Launch} {e : Env} {s : State} {m : MethodId} {below : List Frame} {meth : Method} {c : Code} {dC : Nat → ClassId} {dI : Nat → Nat → Nat} {z zK zV : Nat → Nat} {b : Nat} {xs : Nat → Int32} {A : Nat → Prop} (hst : l.stackTraces = false) (C0 : lw_At p s m meth c b 4 xs) (hM : am z zK zV A s s.heap) (hA : ∀ q : Nat, s.heap.size ≤ q → A q) (hAl : ∀ q : Nat, A q → s.heap.size ≤ q) (sh : Nat) (rg : Nat) (dk : Nat) (w0 : Nat) (w1 : Nat) (ol : Nat) (hd : Nat) (lg : Nat) (pl : Nat) (pr : Nat) (x : Nat) (tl : Nat) (tw : Nat) (mo : Nat) (ti : Nat) (si : Nat) (lo : Nat) (lh : Nat) (lk : Nat) (sp : Nat) (st : Nat) (pa : Nat) (br : Nat) (sg : Nat) (csi : ClassId) (ou : Nat) (co : ClassId) (of_ : Nat → Int64) (od_ : Nat)  (hs1 : xs 1 = 0) (H : Heap) (locs : List Loc) (hK : va_K (dC, dI) vwCl [(csi, .int), (co, .long)] s) (hP : va_P (dC, dI) vwCl [(x, .inr (15, [.ref sh, .ref tl, .ref tw, .int 0])), (sh, .inr (13, [.ref rg, .ref dk, .ref hd, .ref lg, .ref pl, .ref pr, .int 0, .int 0, .int 0, .int 0, .int 0, .int 0, .int 0, .int 0, .int 0, .int 0, .int 0])), (dk, .inr (4, [.ref w0, .ref w1, .ref ol, .int 0, .int 0, .int 0, .int 0])), (w0, .inr (14, [.int 0, .int 0])), (w1, .inr (14, [.int 0, .int 0])), (mo, .inr (19, [.int 0, .int 0, .int 0, .int 0, .int 0, .int 0, .int 0, .ref ti, .ref si, .ref lo, .ref lh, .ref lk, .ref sp, .ref st, .ref pa, .ref br, .ref sg, .int 0, .int 0, .int 0, .int 0, .int 0, .int 0, .long 0, .long 0, .long 0, .long 0, .int 0])), (si, .inl (csi, 2, .inl (fun _ => 0))), (ou, .inl (co, 1, .inr (.inl of_)))] H) (hD : va_D A [(x, .inr (15, [.ref sh, .ref tl, .ref tw, .int 0])), (sh, .inr (13, [.ref rg, .ref dk, .ref hd, .ref lg, .ref pl, .ref pr, .int 0, .int 0, .int 0, .int 0, .int 0, .int 0, .int 0, .int 0, .int 0, .int 0, .int 0])), (dk, .inr (4, [.ref w0, .ref w1, .ref ol, .int 0, .int 0, .int 0, .int 0])), (w0, .inr (14, [.int 0, .int 0])), (w1, .inr (14, [.int 0, .int 0])), (mo, .inr (19, [.int 0, .int 0, .int 0, .int 0, .int 0, .int 0, .int 0, .ref ti, .ref si, .ref lo, .ref lh, .ref lk, .ref sp, .ref st, .ref pa, .ref br, .ref sg, .int 0, .int 0, .int 0, .int 0, .int 0, .int 0, .long 0, .long 0, .long 0, .long 0, .int 0])), (si, .inl (csi, 2, .inl (fun _ => 0))), (ou, .inl (co, 1, .inr (.inl of_)))]) (hS : va_S A s.heap H locs) (ls : Array Slot) (hl : lv_has ls 10 [(0, .ref b), (1, .ref x), (2, .ref mo), (3, .ref ou), (4, .ref od_), (5, .int 0)]) : W p l e room_1 s m #[Value.ref b] below meth c H locs 100 1400 (lw_Z below #[Value.ref b] s) (F0 m 720 ls []) := by
  obtain ⟨hx, hb, hr, hml, hown, hts, hX, hbl, hlocks, hgv⟩ := id C0
  have hbA : ¬ A b := fun h => absurd (hAl b h) (Nat.not_le.mpr hbl)
  refine lv_aload_n hx hb dL_law_720 rfl (lv_at hl 1 rfl) ?_
  refine lv_aload_n hx hb dL_law_721 rfl (lv_at hl 0 rfl) ?_
  refine lv_iload hx hb dL_law_722 (lv_at hl 5 rfl) ?_
  refine lv_iconst (v := 1) hx hb dL_law_724 (by decide) ?_
  refine lv_iadd hx hb dL_law_725 ?_
  refine kc_i (y := 1) (by decide +kernel) ?_
  refine va_sld hx hb hX hbl hbA hS (pk_in 1 4 (by decide) rfl) dL_law_726 ?_
  refine kc_i (y := 0) (hs1 : xs 1 = 0) ?_
  refine lv_aload_n hx hb dL_law_727 rfl (lv_at hl 3 rfl) ?_
  have hPc := hP.sub (ws' := [(x, .inr (15, [.ref sh, .ref tl, .ref tw, .int 0])), (sh, .inr (13, [.ref rg, .ref dk, .ref hd, .ref lg, .ref pl, .ref pr, .int 0, .int 0, .int 0, .int 0, .int 0, .int 0, .int 0, .int 0, .int 0, .int 0, .int 0])), (dk, .inr (4, [.ref w0, .ref w1, .ref ol, .int 0, .int 0, .int 0, .int 0])), (w0, .inr (14, [.int 0, .int 0])), (w1, .inr (14, [.int 0, .int 0])), (ou, .inl (co, 1, .inr (.inl of_)))]) [0, 1, 2, 3, 4, 7] rfl
  have hDc := hD.sub (ws' := [(x, .inr (15, [.ref sh, .ref tl, .ref tw, .int 0])), (sh, .inr (13, [.ref rg, .ref dk, .ref hd, .ref lg, .ref pl, .ref pr, .int 0, .int 0, .int 0, .int 0, .int 0, .int 0, .int 0, .int 0, .int 0, .int 0, .int 0])), (dk, .inr (4, [.ref w0, .ref w1, .ref ol, .int 0, .int 0, .int 0, .int 0])), (w0, .inr (14, [.int 0, .int 0])), (w1, .inr (14, [.int 0, .int 0])), (ou, .inl (co, 1, .inr (.inl of_)))]) [0, 1, 2, 3, 4, 7] (by decide) rfl
  have hKc := hK.sub (tys' := [(co, .long)]) [1] rfl
  have hFc := va_free (wc := [(x, .inr (15, [.ref sh, .ref tl, .ref tw, .int 0])), (sh, .inr (13, [.ref rg, .ref dk, .ref hd, .ref lg, .ref pl, .ref pr, .int 0, .int 0, .int 0, .int 0, .int 0, .int 0, .int 0, .int 0, .int 0, .int 0, .int 0])), (dk, .inr (4, [.ref w0, .ref w1, .ref ol, .int 0, .int 0, .int 0, .int 0])), (w0, .inr (14, [.int 0, .int 0])), (w1, .inr (14, [.int 0, .int 0])), (ou, .inl (co, 1, .inr (.inl of_)))]) hD hS hA [0, 1, 2, 3, 4, 7] rfl
  refine va_calli (vx_runSW (As := [.ref x, .int 0, .ref ou]) (rest := []) ⟨hx, hb, hml, hown, hts⟩ (k_l_sick0 l dC dI z zK zV sh rg dk w0 w1 ol hd lg pl pr x tl tw ou co of_ H.size) (vx_cwSW 3 hts hL_L_sick_136 rfl rfl rfl (by decide +kernel) ⟨Nat.le_of_ble_eq_true rfl, Nat.le_of_ble_eq_true rfl⟩) ⟨kP_blind, kP_go hPc hKc hDc hFc hM hS⟩ rfl rfl hl.1 rfl (lv_room (Nat.le_of_ble_eq_true rfl)) dL_law_728 ⟨Nat.le_of_ble_eq_true rfl, Nat.le_of_ble_eq_true rfl⟩) hS (fun q _ h => hFc q h) hFc (fun r1 u t H1 locs ht hvm hw hB hz1 hk1 hS => ?_)
  obtain ⟨hP, hD, hK⟩ := kJ (wr := [(mo, .inr (19, [.int 0, .int 0, .int 0, .int 0, .int 0, .int 0, .int 0, .ref ti, .ref si, .ref lo, .ref lh, .ref lk, .ref sp, .ref st, .ref pa, .ref br, .ref sg, .int 0, .int 0, .int 0, .int 0, .int 0, .int 0, .long 0, .long 0, .long 0, .long 0, .int 0])), (si, .inl (csi, 2, .inl (fun _ => 0)))]) (w1 := [(ou, .inl (co, 1, .inr (.inl (vp_updL of_ 0 0))))]) (t1 := []) hP hD hK [0, 1, 2, 3, 4, 7] [5, 6] rfl rfl (by decide) (by decide) hk1 hFc ht hvm hB
  generalize H1 = H at hP hS ⊢
  have hP : va_P (dC, dI) vwCl [(mo, .inr (19, [.int 0, .int 0, .int 0, .int 0, .int 0, .int 0, .int 0, .ref ti, .ref si, .ref lo, .ref lh, .ref lk, .ref sp, .ref st, .ref pa, .ref br, .ref sg, .int 0, .int 0, .int 0, .int 0, .int 0, .int 0, .long 0, .long 0, .long 0, .long 0, .int 0])), (si, .inl (csi, 2, .inl (fun _ => 0))), (ou, .inl (co, 1, .inr (.inl (vp_updL of_ 0 0))))] H := hP
  have hD : va_D A [(mo, .inr (19, [.int 0, .int 0, .int 0, .int 0, .int 0, .int 0, .int 0, .ref ti, .ref si, .ref lo, .ref lh, .ref lk, .ref sp, .ref st, .ref pa, .ref br, .ref sg, .int 0, .int 0, .int 0, .int 0, .int 0, .int 0, .long 0, .long 0, .long 0, .long 0, .int 0])), (si, .inl (csi, 2, .inl (fun _ => 0))), (ou, .inl (co, 1, .inr (.inl (vp_updL of_ 0 0))))] := hD
  have hK : va_K (dC, dI) vwCl [(csi, .int), (co, .long)] s := hK
  obtain rfl : 0 = r1 := hw
  refine lv_istore (lv' := [(6, .int 0), (0, .ref b), (1, .ref x), (2, .ref mo), (3, .ref ou), (4, .ref od_), (5, .int 0)]) hx hb dL_law_731 hl (by decide) rfl (fun ls hl => ?_)
  refine lv_aload_n hx hb dL_law_733 rfl (lv_at hl 3 rfl) ?_
  refine lv_aload_n hx hb dL_law_734 rfl (lv_at hl 1 rfl) ?_
  refine lv_iload hx hb dL_law_735 (lv_at hl 6 rfl) ?_
  refine lv_iconst (v := 1) hx hb dL_law_737 (by decide) ?_
  refine lv_iadd hx hb dL_law_738 ?_
  refine kc_i (y := 1) (by decide +kernel) ?_
  refine va_sld hx hb hX hbl hbA hS (pk_in 1 4 (by decide) rfl) dL_law_739 ?_
  refine kc_i (y := 0) (hs1 : xs 1 = 0) ?_
  have hPc := hP.sub (ws' := [(mo, .inr (19, [.int 0, .int 0, .int 0, .int 0, .int 0, .int 0, .int 0, .ref ti, .ref si, .ref lo, .ref lh, .ref lk, .ref sp, .ref st, .ref pa, .ref br, .ref sg, .int 0, .int 0, .int 0, .int 0, .int 0, .int 0, .long 0, .long 0, .long 0, .long 0, .int 0])), (si, .inl (csi, 2, .inl (fun _ => 0)))]) [0, 1] rfl
  have hDc := hD.sub (ws' := [(mo, .inr (19, [.int 0, .int 0, .int 0, .int 0, .int 0, .int 0, .int 0, .ref ti, .ref si, .ref lo, .ref lh, .ref lk, .ref sp, .ref st, .ref pa, .ref br, .ref sg, .int 0, .int 0, .int 0, .int 0, .int 0, .int 0, .long 0, .long 0, .long 0, .long 0, .int 0])), (si, .inl (csi, 2, .inl (fun _ => 0)))]) [0, 1] (by decide) rfl
  have hKc := hK.sub (tys' := [(csi, .int)]) [0] rfl
  have hFc := va_free (wc := [(mo, .inr (19, [.int 0, .int 0, .int 0, .int 0, .int 0, .int 0, .int 0, .ref ti, .ref si, .ref lo, .ref lh, .ref lk, .ref sp, .ref st, .ref pa, .ref br, .ref sg, .int 0, .int 0, .int 0, .int 0, .int 0, .int 0, .long 0, .long 0, .long 0, .long 0, .int 0])), (si, .inl (csi, 2, .inl (fun _ => 0)))]) hD hS hA [0, 1] rfl
  refine va_calli (va_runV (As := [.int 0]) (rest := []) ⟨hx, hb, hml, hown, hts⟩ (k_m_sick0 l dC dI z zK zV mo ti si lo lh lk sp st pa br sg csi 0 H.size) (cwV 1 hts hL_X15_sick_138 rfl rfl rfl (by decide +kernel) ⟨Nat.le_of_ble_eq_true rfl, Nat.le_of_ble_eq_true rfl⟩) ⟨kP_blind, va_recv hKc hPc (ci := 19) (q0 := 0) rfl rfl, kP_go hPc hKc hDc hFc hM hS⟩ rfl rfl hl.1 rfl (lv_room (Nat.le_of_ble_eq_true rfl)) dL_law_740 ⟨Nat.le_of_ble_eq_true rfl, Nat.le_of_ble_eq_true rfl⟩) hS (fun q _ h => hFc q h) hFc (fun r2 u t H1 locs ht hvm hw hB hz1 hk1 hS => ?_)
  obtain ⟨hP, hD, hK⟩ := kJ (wr := [(ou, .inl (co, 1, .inr (.inl (vp_updL of_ 0 0))))]) (w1 := [(mo, .inr (19, [.int 0, .int 0, .int 0, .int 0, .int 0, .int 0, .int 0, .ref ti, .ref si, .ref lo, .ref lh, .ref lk, .ref sp, .ref st, .ref pa, .ref br, .ref sg, .int 0, .int 0, .int 0, .int 0, .int 0, .int 0, .long 0, .long 0, .long 0, .long 0, .int 0]))]) (t1 := []) hP hD hK [0, 1] [2] rfl rfl (by decide) (by decide) hk1 hFc ht hvm hB
  generalize H1 = H at hP hS ⊢
  have hP : va_P (dC, dI) vwCl [(ou, .inl (co, 1, .inr (.inl (vp_updL of_ 0 0)))), (mo, .inr (19, [.int 0, .int 0, .int 0, .int 0, .int 0, .int 0, .int 0, .ref ti, .ref si, .ref lo, .ref lh, .ref lk, .ref sp, .ref st, .ref pa, .ref br, .ref sg, .int 0, .int 0, .int 0, .int 0, .int 0, .int 0, .long 0, .long 0, .long 0, .long 0, .int 0]))] H := hP
  have hD : va_D A [(ou, .inl (co, 1, .inr (.inl (vp_updL of_ 0 0)))), (mo, .inr (19, [.int 0, .int 0, .int 0, .int 0, .int 0, .int 0, .int 0, .ref ti, .ref si, .ref lo, .ref lh, .ref lk, .ref sp, .ref st, .ref pa, .ref br, .ref sg, .int 0, .int 0, .int 0, .int 0, .int 0, .int 0, .long 0, .long 0, .long 0, .long 0, .int 0]))] := hD
  have hK : va_K (dC, dI) vwCl [(csi, .int), (co, .long)] s := hK
  obtain rfl : 0 = r2 := hw
  refine lv_istore (lv' := [(7, .int 0), (6, .int 0), (0, .ref b), (1, .ref x), (2, .ref mo), (3, .ref ou), (4, .ref od_), (5, .int 0)]) hx hb dL_law_743 hl (by decide) rfl (fun ls hl => ?_)
  refine lv_aload_n hx hb dL_law_745 rfl (lv_at hl 4 rfl) ?_
  have hPc := hP.sub (ws' := [(mo, .inr (19, [.int 0, .int 0, .int 0, .int 0, .int 0, .int 0, .int 0, .ref ti, .ref si, .ref lo, .ref lh, .ref lk, .ref sp, .ref st, .ref pa, .ref br, .ref sg, .int 0, .int 0, .int 0, .int 0, .int 0, .int 0, .long 0, .long 0, .long 0, .long 0, .int 0]))]) [1] rfl
  have hDc := hD.sub (ws' := [(mo, .inr (19, [.int 0, .int 0, .int 0, .int 0, .int 0, .int 0, .int 0, .ref ti, .ref si, .ref lo, .ref lh, .ref lk, .ref sp, .ref st, .ref pa, .ref br, .ref sg, .int 0, .int 0, .int 0, .int 0, .int 0, .int 0, .long 0, .long 0, .long 0, .long 0, .int 0]))]) [1] (by decide) rfl
  have hKc := hK.sub (tys' := []) [] rfl
  have hFc := va_free (wc := [(mo, .inr (19, [.int 0, .int 0, .int 0, .int 0, .int 0, .int 0, .int 0, .ref ti, .ref si, .ref lo, .ref lh, .ref lk, .ref sp, .ref st, .ref pa, .ref br, .ref sg, .int 0, .int 0, .int 0, .int 0, .int 0, .int 0, .long 0, .long 0, .long 0, .long 0, .int 0]))]) hD hS hA [1] rfl
  refine va_calli (va_runV (As := []) (rest := []) ⟨hx, hb, hml, hown, hts⟩ (k_m_thrown l dC dI z zK zV mo ti si lo lh lk sp st pa br sg 0 0 0 0 0 0 0 0 0 0 0 0 0 0 0 0 0 0 H.size) (cwV 0 hts hL_X15_thrown_100 rfl rfl rfl (by decide +kernel) ⟨Nat.le_of_ble_eq_true rfl, Nat.le_of_ble_eq_true rfl⟩) ⟨kP_blind, va_recv hKc hPc (ci := 19) (q0 := 0) rfl rfl, kP_go hPc hKc hDc hFc hM hS⟩ rfl rfl hl.1 rfl (lv_room (Nat.le_of_ble_eq_true rfl)) dL_law_746 ⟨Nat.le_of_ble_eq_true rfl, Nat.le_of_ble_eq_true rfl⟩) hS (fun q _ h => hFc q h) hFc (fun r3 u t H1 locs ht hvm hw hB hz1 hk1 hS => ?_)
  obtain ⟨hP, hD, hK⟩ := kJ (wr := [(ou, .inl (co, 1, .inr (.inl (vp_updL of_ 0 0))))]) (w1 := [(mo, .inr (19, [.int 0, .int 0, .int 0, .int 0, .int 0, .int 0, .int 0, .ref ti, .ref si, .ref lo, .ref lh, .ref lk, .ref sp, .ref st, .ref pa, .ref br, .ref sg, .int 0, .int 0, .int 0, .int 0, .int 0, .int 0, .long 0, .long 0, .long 0, .long 0, .int 0]))]) (t1 := []) hP hD hK [1] [0] rfl rfl (by decide) (by decide) hk1 hFc ht hvm hB
  generalize H1 = H at hP hS ⊢
  have hP : va_P (dC, dI) vwCl [(ou, .inl (co, 1, .inr (.inl (vp_updL of_ 0 0)))), (mo, .inr (19, [.int 0, .int 0, .int 0, .int 0, .int 0, .int 0, .int 0, .ref ti, .ref si, .ref lo, .ref lh, .ref lk, .ref sp, .ref st, .ref pa, .ref br, .ref sg, .int 0, .int 0, .int 0, .int 0, .int 0, .int 0, .long 0, .long 0, .long 0, .long 0, .int 0]))] H := hP
  have hD : va_D A [(ou, .inl (co, 1, .inr (.inl (vp_updL of_ 0 0)))), (mo, .inr (19, [.int 0, .int 0, .int 0, .int 0, .int 0, .int 0, .int 0, .ref ti, .ref si, .ref lo, .ref lh, .ref lk, .ref sp, .ref st, .ref pa, .ref br, .ref sg, .int 0, .int 0, .int 0, .int 0, .int 0, .int 0, .long 0, .long 0, .long 0, .long 0, .int 0]))] := hD
  have hK : va_K (dC, dI) vwCl [(csi, .int), (co, .long)] s := hK
  obtain rfl : 0 = r3 := hw
  refine lv_iload hx hb dL_law_749 (lv_at hl 1 rfl) ?_
  refine lv_icmp_eq (tgt := 756) hx hb dL_law_751 (by decide) (fun _ => ?_) (fun c_ => absurd (by decide +kernel) c_)
  refine lv_iload hx hb dL_law_756 (lv_at hl 1 rfl) ?_
  refine lv_if_ne (tgt := 773) hx hb dL_law_758 (by decide) (fun c_ => absurd (by decide +kernel) c_) (fun _ => ?_)
  refine lv_aload_n hx hb dL_law_761 rfl (lv_at hl 5 rfl) ?_
  refine lv_iconst (v := 0) hx hb dL_law_762 (by decide) ?_
  refine va_lald hx hb hK hP 0 1 rfl rfl (pk_in 0 1 (by decide) rfl) dL_law_763 ?_
  refine kc_v (y := .long 0) rfl ?_
  refine lv_iload hx hb dL_law_764 (lv_at hl 0 rfl) ?_
  refine lv_i2l (v := 0) hx hb dL_law_766 (by decide +kernel) ?_
  refine W.lcmp hx hb dL_law_767 ?_
  refine kc_i (y := 0) (by decide +kernel) ?_
  refine lv_if_eq (tgt := 773) hx hb dL_law_768 (by decide) (fun _ => ?_) (fun c_ => absurd (by decide +kernel) c_)
  refine lv_goto (tgt := 1684) hx hb dL_law_773 (by decide) ?_
  exact la_tail (dC := dC) (dI := dI) hst C0 hM hA hAl H locs hS ls (lv_sub hl [2, 7] rfl) (by omega) (by omega)
